def o_X12_init : List Cond := [.methodLink RX12 211 objectInit, .instanceMethod objectInit, .code objectInit ⟨#[0xb1]⟩ 1 none, .arrayClass .byte, .fieldLink RX12 61 "EarTableModel" "tape" "[B", .fieldLink RX12 7 "EarTableModel" "text" "[B", .fieldLink RX12 14 "EarTableModel" "faultPlace" "I", .arrayClass .int, .fieldLink RX12 140 "EarTableModel" "first" "[I", .fieldLink RX12 143 "EarTableModel" "over" "[I", .fieldLink RX12 146 "EarTableModel" "kind" "[I", .fieldLink RX12 149 "EarTableModel" "held" "[I", .fieldLink RX12 70 "EarTableModel" "levels" "[I", .fieldLink RX12 74 "EarTableModel" "lines" "[I", .fieldLink RX12 77 "EarTableModel" "columns" "[I", .arrayClass .long, .fieldLink RX12 152 "EarTableModel" "named" "[J", .arrayClass .boolean, .fieldLink RX12 125 "EarTableModel" "isSum" "[Z", .fieldLink RX12 110 "EarTableModel" "view" "[I", .fieldLink RX12 182 "EarTableModel" "was" "[I", .fieldLink RX12 185 "EarTableModel" "wanted" "[I", .fieldLink RX12 116 "EarTableModel" "placeLine" "I", .fieldLink RX12 216 "EarTableModel" "toldWhat" "[I", .fieldLink RX12 219 "EarTableModel" "toldLevel" "[I", .fieldLink RX12 222 "EarTableModel" "toldAt" "[I", .fieldLink RX12 225 "EarTableModel" "backLine" "[I", .fieldLink RX12 228 "EarTableModel" "backColumn" "[I", .fieldLink RX12 107 "EarTableModel" "markLine" "[I", .fieldLink RX12 231 "EarTableModel" "markColumn" "[I", .fieldLink RX12 104 "EarTableModel" "toldLine" "I", .fieldLink RX12 234 "EarTableModel" "needs" "[I", .fieldLink RX12 237 "EarTableModel" "xSpot" "[I", .fieldLink RX12 240 "EarTableModel" "xKind" "[I", .fieldLink RX12 243 "EarTableModel" "xHeld" "[I", .fieldLink RX12 246 "EarTableModel" "xLine" "[I", .fieldLink RX12 249 "EarTableModel" "xNamed" "[J"]
def u_X12_init : List Cond := .code yX12_init cX12_init 2 none :: (o_X12_init ++ (wsX120 ++ ([] : List Cond)))
theorem inw_X12_init_X12 : ∀ w ∈ wsX120, w ∈ u_X12_init := fun w h => List.mem_cons_of_mem _ (List.mem_append_right _ (List.mem_append_left _ h))
set_option maxRecDepth 20000 in
theorem good_X12_init : u_X12_init.all goodWord = true := by decide +kernel
set_option maxRecDepth 20000 in
theorem in_X12_init : ∀ w ∈ u_X12_init, w ∈ lw_tbl := ma_cons inc_X12_init (ma_app (ma_pos o_X12_init [975, 86, 87, 1127, 976, 977, 981, 103, 987, 988, 989, 990, 991, 992, 993, 187, 994, 188, 995, 999, 1000, 1001, 1003, 1005, 1006, 1007, 1008, 1009, 1010, 1011, 1013, 1016, 1017, 1018, 1019, 1020, 1021] (by decide +kernel)) (ma_app inb_X12 ma_nil))
set_option maxHeartbeats 4000000 in
set_option maxRecDepth 100000 in
theorem c_X12_init (l : Launch) (D : va_G) (cI cJ cZ cB : ClassId) (sz : Nat) (h0 : Nat) (v0 : Value) (v1 : Value) (v2 : Value) (v3 : Value) (v4 : Value) (v5 : Value) (v6 : Value) (v7 : Value) (v8 : Value) (v9 : Value) (v10 : Value) (v11 : Value) (v12 : Value) (v13 : Value) (v14 : Value) (v15 : Value) (v16 : Value) (v17 : Value) (v18 : Value) (v19 : Value) (v20 : Value) (v21 : Value) (v22 : Value) (v23 : Value) (v24 : Value) (v25 : Value) (v26 : Value) (v27 : Value) (v28 : Value) (v29 : Value) (v30 : Value) (v31 : Value) (v32 : Value) (v33 : Value) (v34 : Value) (v35 : Value) (v36 : Value) (v37 : Value) (v38 : Value) (v39 : Value) (v40 : Value) (v41 : Value) (v42 : Value) (v43 : Value) (v44 : Value) (v45 : Value) (v46 : Value) (v47 : Value) (v48 : Value) (v49 : Value) : Met l yX12_init u_X12_init ({ frames := 1, cells := 27, slots := 6584, locals := 20 }) (va_Pc [.ref h0] (kPre D cI cJ cZ cB [(h0, .inr (11, [v0, v1, v2, v3, v4, v5, v6, v7, v8, v9, v10, v11, v12, v13, v14, v15, v16, v17, v18, v19, v20, v21, v22, v23, v24, v25, v26, v27, v28, v29, v30, v31, v32, v33, v34, v35, v36, v37, v38, v39, v40, v41, v42, v43, v44, v45, v46, v47, v48, v49]))] sz)) (va_Qv (fun (_ : Nat × Nat × Nat × Nat × Nat × Nat × Nat × Nat × Nat × Nat × Nat × Nat × Nat × Nat × Nat × Nat × Nat × Nat × Nat × Nat × Nat × Nat × Nat × Nat × Nat × Nat × Nat × (Nat → Int32) × (Nat → Int32) × (Nat → Int32) × (Nat → Int32) × (Nat → Int32) × (Nat → Int32) × (Nat → Int64) × (Nat → Int32) × (Nat → Int32) × (Nat → Int32) × (Nat → Int32) × (Nat → Int32) × (Nat → Int32) × (Nat → Int32) × (Nat → Int32) × (Nat → Int32) × (Nat → Int32) × (Nat → Int32) × (Nat → Int32) × (Nat → Int32) × (Nat → Int32) × (Nat → Int32) × (Nat → Int32) × (Nat → Int64)) => True) (kB D (fun (u : Nat × Nat × Nat × Nat × Nat × Nat × Nat × Nat × Nat × Nat × Nat × Nat × Nat × Nat × Nat × Nat × Nat × Nat × Nat × Nat × Nat × Nat × Nat × Nat × Nat × Nat × Nat × (Nat → Int32) × (Nat → Int32) × (Nat → Int32) × (Nat → Int32) × (Nat → Int32) × (Nat → Int32) × (Nat → Int64) × (Nat → Int32) × (Nat → Int32) × (Nat → Int32) × (Nat → Int32) × (Nat → Int32) × (Nat → Int32) × (Nat → Int32) × (Nat → Int32) × (Nat → Int32) × (Nat → Int32) × (Nat → Int32) × (Nat → Int32) × (Nat → Int32) × (Nat → Int32) × (Nat → Int32) × (Nat → Int32) × (Nat → Int64)) => [(h0, .inr (11, [.ref u.1, .ref u.2.1, v2, v3, v4, .int (-1), v6, v7, v8, v9, v10, .ref u.2.2.1, .ref u.2.2.2.1, .ref u.2.2.2.2.1, .ref u.2.2.2.2.2.1, .ref u.2.2.2.2.2.2.1, .ref u.2.2.2.2.2.2.2.1, .ref u.2.2.2.2.2.2.2.2.1, .ref u.2.2.2.2.2.2.2.2.2.1, .ref u.2.2.2.2.2.2.2.2.2.2.1, v20, v21, v22, .ref u.2.2.2.2.2.2.2.2.2.2.2.1, .ref u.2.2.2.2.2.2.2.2.2.2.2.2.1, .ref u.2.2.2.2.2.2.2.2.2.2.2.2.2.1, v26, .int (-1), v28, .ref u.2.2.2.2.2.2.2.2.2.2.2.2.2.2.1, .ref u.2.2.2.2.2.2.2.2.2.2.2.2.2.2.2.1, .ref u.2.2.2.2.2.2.2.2.2.2.2.2.2.2.2.2.1, .ref u.2.2.2.2.2.2.2.2.2.2.2.2.2.2.2.2.2.1, .ref u.2.2.2.2.2.2.2.2.2.2.2.2.2.2.2.2.2.2.1, .ref u.2.2.2.2.2.2.2.2.2.2.2.2.2.2.2.2.2.2.2.1, .ref u.2.2.2.2.2.2.2.2.2.2.2.2.2.2.2.2.2.2.2.2.1, v36, .int (-1), v38, v39, .ref u.2.2.2.2.2.2.2.2.2.2.2.2.2.2.2.2.2.2.2.2.2.1, .ref u.2.2.2.2.2.2.2.2.2.2.2.2.2.2.2.2.2.2.2.2.2.2.1, .ref u.2.2.2.2.2.2.2.2.2.2.2.2.2.2.2.2.2.2.2.2.2.2.2.1, .ref u.2.2.2.2.2.2.2.2.2.2.2.2.2.2.2.2.2.2.2.2.2.2.2.2.1, .ref u.2.2.2.2.2.2.2.2.2.2.2.2.2.2.2.2.2.2.2.2.2.2.2.2.2.1, .ref u.2.2.2.2.2.2.2.2.2.2.2.2.2.2.2.2.2.2.2.2.2.2.2.2.2.2.1, v46, v47, v48, v49])), (u.1, .inl (cB, 1620, .inl u.2.2.2.2.2.2.2.2.2.2.2.2.2.2.2.2.2.2.2.2.2.2.2.2.2.2.2.1)), (u.2.1, .inl (cB, 1600, .inl u.2.2.2.2.2.2.2.2.2.2.2.2.2.2.2.2.2.2.2.2.2.2.2.2.2.2.2.2.1)), (u.2.2.1, .inl (cI, 528, .inl u.2.2.2.2.2.2.2.2.2.2.2.2.2.2.2.2.2.2.2.2.2.2.2.2.2.2.2.2.2.1)), (u.2.2.2.1, .inl (cI, 528, .inl u.2.2.2.2.2.2.2.2.2.2.2.2.2.2.2.2.2.2.2.2.2.2.2.2.2.2.2.2.2.2.1)), (u.2.2.2.2.1, .inl (cI, 528, .inl u.2.2.2.2.2.2.2.2.2.2.2.2.2.2.2.2.2.2.2.2.2.2.2.2.2.2.2.2.2.2.2.1)), (u.2.2.2.2.2.1, .inl (cI, 528, .inl u.2.2.2.2.2.2.2.2.2.2.2.2.2.2.2.2.2.2.2.2.2.2.2.2.2.2.2.2.2.2.2.2.1)), (u.2.2.2.2.2.2.1, .inl (cI, 2, .inl (fun _ => 0))), (u.2.2.2.2.2.2.2.1, .inl (cI, 2, .inl (fun _ => 0))), (u.2.2.2.2.2.2.2.2.1, .inl (cI, 2, .inl (fun _ => 0))), (u.2.2.2.2.2.2.2.2.2.1, .inl (cJ, 528, .inr (.inl u.2.2.2.2.2.2.2.2.2.2.2.2.2.2.2.2.2.2.2.2.2.2.2.2.2.2.2.2.2.2.2.2.2.1))), (u.2.2.2.2.2.2.2.2.2.2.1, .inl (cZ, 60, .inl u.2.2.2.2.2.2.2.2.2.2.2.2.2.2.2.2.2.2.2.2.2.2.2.2.2.2.2.2.2.2.2.2.2.2.1)), (u.2.2.2.2.2.2.2.2.2.2.2.1, .inl (cI, 30, .inl u.2.2.2.2.2.2.2.2.2.2.2.2.2.2.2.2.2.2.2.2.2.2.2.2.2.2.2.2.2.2.2.2.2.2.2.1)), (u.2.2.2.2.2.2.2.2.2.2.2.2.1, .inl (cI, 30, .inl u.2.2.2.2.2.2.2.2.2.2.2.2.2.2.2.2.2.2.2.2.2.2.2.2.2.2.2.2.2.2.2.2.2.2.2.2.1)), (u.2.2.2.2.2.2.2.2.2.2.2.2.2.1, .inl (cI, 30, .inl u.2.2.2.2.2.2.2.2.2.2.2.2.2.2.2.2.2.2.2.2.2.2.2.2.2.2.2.2.2.2.2.2.2.2.2.2.2.1)), (u.2.2.2.2.2.2.2.2.2.2.2.2.2.2.1, .inl (cI, 6, .inl u.2.2.2.2.2.2.2.2.2.2.2.2.2.2.2.2.2.2.2.2.2.2.2.2.2.2.2.2.2.2.2.2.2.2.2.2.2.2.1)), (u.2.2.2.2.2.2.2.2.2.2.2.2.2.2.2.1, .inl (cI, 6, .inl u.2.2.2.2.2.2.2.2.2.2.2.2.2.2.2.2.2.2.2.2.2.2.2.2.2.2.2.2.2.2.2.2.2.2.2.2.2.2.2.1)), (u.2.2.2.2.2.2.2.2.2.2.2.2.2.2.2.2.1, .inl (cI, 6, .inl u.2.2.2.2.2.2.2.2.2.2.2.2.2.2.2.2.2.2.2.2.2.2.2.2.2.2.2.2.2.2.2.2.2.2.2.2.2.2.2.2.1)), (u.2.2.2.2.2.2.2.2.2.2.2.2.2.2.2.2.2.1, .inl (cI, 50, .inl u.2.2.2.2.2.2.2.2.2.2.2.2.2.2.2.2.2.2.2.2.2.2.2.2.2.2.2.2.2.2.2.2.2.2.2.2.2.2.2.2.2.1)), (u.2.2.2.2.2.2.2.2.2.2.2.2.2.2.2.2.2.2.1, .inl (cI, 50, .inl u.2.2.2.2.2.2.2.2.2.2.2.2.2.2.2.2.2.2.2.2.2.2.2.2.2.2.2.2.2.2.2.2.2.2.2.2.2.2.2.2.2.2.1)), (u.2.2.2.2.2.2.2.2.2.2.2.2.2.2.2.2.2.2.2.1, .inl (cI, 5, .inl u.2.2.2.2.2.2.2.2.2.2.2.2.2.2.2.2.2.2.2.2.2.2.2.2.2.2.2.2.2.2.2.2.2.2.2.2.2.2.2.2.2.2.2.1)), (u.2.2.2.2.2.2.2.2.2.2.2.2.2.2.2.2.2.2.2.2.1, .inl (cI, 5, .inl u.2.2.2.2.2.2.2.2.2.2.2.2.2.2.2.2.2.2.2.2.2.2.2.2.2.2.2.2.2.2.2.2.2.2.2.2.2.2.2.2.2.2.2.2.1)), (u.2.2.2.2.2.2.2.2.2.2.2.2.2.2.2.2.2.2.2.2.2.1, .inl (cI, 240, .inl u.2.2.2.2.2.2.2.2.2.2.2.2.2.2.2.2.2.2.2.2.2.2.2.2.2.2.2.2.2.2.2.2.2.2.2.2.2.2.2.2.2.2.2.2.2.1)), (u.2.2.2.2.2.2.2.2.2.2.2.2.2.2.2.2.2.2.2.2.2.2.1, .inl (cI, 40, .inl u.2.2.2.2.2.2.2.2.2.2.2.2.2.2.2.2.2.2.2.2.2.2.2.2.2.2.2.2.2.2.2.2.2.2.2.2.2.2.2.2.2.2.2.2.2.2.1)), (u.2.2.2.2.2.2.2.2.2.2.2.2.2.2.2.2.2.2.2.2.2.2.2.1, .inl (cI, 40, .inl u.2.2.2.2.2.2.2.2.2.2.2.2.2.2.2.2.2.2.2.2.2.2.2.2.2.2.2.2.2.2.2.2.2.2.2.2.2.2.2.2.2.2.2.2.2.2.2.1)), (u.2.2.2.2.2.2.2.2.2.2.2.2.2.2.2.2.2.2.2.2.2.2.2.2.1, .inl (cI, 40, .inl u.2.2.2.2.2.2.2.2.2.2.2.2.2.2.2.2.2.2.2.2.2.2.2.2.2.2.2.2.2.2.2.2.2.2.2.2.2.2.2.2.2.2.2.2.2.2.2.2.1)), (u.2.2.2.2.2.2.2.2.2.2.2.2.2.2.2.2.2.2.2.2.2.2.2.2.2.1, .inl (cI, 40, .inl u.2.2.2.2.2.2.2.2.2.2.2.2.2.2.2.2.2.2.2.2.2.2.2.2.2.2.2.2.2.2.2.2.2.2.2.2.2.2.2.2.2.2.2.2.2.2.2.2.2.1)), (u.2.2.2.2.2.2.2.2.2.2.2.2.2.2.2.2.2.2.2.2.2.2.2.2.2.2.1, .inl (cJ, 40, .inr (.inl u.2.2.2.2.2.2.2.2.2.2.2.2.2.2.2.2.2.2.2.2.2.2.2.2.2.2.2.2.2.2.2.2.2.2.2.2.2.2.2.2.2.2.2.2.2.2.2.2.2.2)))]) (va_A [(h0, .inr (11, [v0, v1, v2, v3, v4, v5, v6, v7, v8, v9, v10, v11, v12, v13, v14, v15, v16, v17, v18, v19, v20, v21, v22, v23, v24, v25, v26, v27, v28, v29, v30, v31, v32, v33, v34, v35, v36, v37, v38, v39, v40, v41, v42, v43, v44, v45, v46, v47, v48, v49]))] sz)) (va_A [(h0, .inr (11, [v0, v1, v2, v3, v4, v5, v6, v7, v8, v9, v10, v11, v12, v13, v14, v15, v16, v17, v18, v19, v20, v21, v22, v23, v24, v25, v26, v27, v28, v29, v30, v31, v32, v33, v34, v35, v36, v37, v38, v39, v40, v41, v42, v43, v44, v45, v46, v47, v48, v49]))] sz)) 27 6584 (va_A [(h0, .inr (11, [v0, v1, v2, v3, v4, v5, v6, v7, v8, v9, v10, v11, v12, v13, v14, v15, v16, v17, v18, v19, v20, v21, v22, v23, v24, v25, v26, v27, v28, v29, v30, v31, v32, v33, v34, v35, v36, v37, v38, v39, v40, v41, v42, v43, v44, v45, v46, v47, v48, v49]))] sz) := by
  refine Met.ofW (cc := cX12_init) (maxL := 2) (ret := none) (by decide) rfl ?_
  intro p e s m args below meth c s₁ B hml hv
  obtain ⟨rfl, hsz, hP, hK, hN, hD0⟩ := hv
  have hx := B.exec
  have hb := B.bytes
  have hr := B.returns
  have hts := atoms_spec (ws := u_X12_init) B.pre
  have hown : s.vm.findClass RX12 = some m.cls := findClass_of_methodNamed B.named
  have hlocks := B.notSynchronized
  have hin : meth.name = "<init>" := (name_of_methodNamed B.named B.method).1
  subst hsz
  have hD := hD0.self (sz := s.heap.size)
  generalize hAe : va_A [(h0, .inr (11, [v0, v1, v2, v3, v4, v5, v6, v7, v8, v9, v10, v11, v12, v13, v14, v15, v16, v17, v18, v19, v20, v21, v22, v23, v24, v25, v26, v27, v28, v29, v30, v31, v32, v33, v34, v35, v36, v37, v38, v39, v40, v41, v42, v43, v44, v45, v46, v47, v48, v49]))] s.heap.size = A at hD ⊢
  have hA : ∀ q : Nat, s.heap.size ≤ q → A q := fun q h => by rw [← hAe]; exact Or.inr h
  have hS : va_S A s.heap s.heap [] := va_S.rf
  have hP : va_P D vwCl [(h0, .inr (11, [v0, v1, v2, v3, v4, v5, v6, v7, v8, v9, v10, v11, v12, v13, v14, v15, v16, v17, v18, v19, v20, v21, v22, v23, v24, v25, v26, v27, v28, v29, v30, v31, v32, v33, v34, v35, v36, v37, v38, v39, v40, v41, v42, v43, v44, v45, v46, v47, v48, v49]))] s.heap := hP
  have hl := lv_entry ([.ref h0]) (n := 2) (Nat.le_of_ble_eq_true rfl)
  rw [lg_entry_eq]
  generalize (lg_sl ([.ref h0]) ++ List.replicate (2 - (lg_sl ([.ref h0])).length) Slot.unset).toArray = ls at hl ⊢
  have hl : lv_has ls 2 [(0, .ref h0)] := hl
  obtain ⟨H, hHe⟩ : ∃ H, s.heap = H := ⟨_, rfl⟩
  have hP : va_P D vwCl [(h0, .inr (11, [v0, v1, v2, v3, v4, v5, v6, v7, v8, v9, v10, v11, v12, v13, v14, v15, v16, v17, v18, v19, v20, v21, v22, v23, v24, v25, v26, v27, v28, v29, v30, v31, v32, v33, v34, v35, v36, v37, v38, v39, v40, v41, v42, v43, v44, v45, v46, v47, v48, v49]))] H := by rw [← hHe]; exact hP
  have hS : va_S A s.heap H [] := by rw [← hHe]; exact hS
  refine kn_heap hHe ?_
  refine lv_aload_n hx hb dX12_init_0 rfl (lv_at hl 0 rfl) ?_
  refine W.objInit hx hb hown (hts (.methodLink RX12 211 objectInit) (by decide +kernel)) (hts (.instanceMethod objectInit) (by decide +kernel)) (hts (.code objectInit ⟨#[0xb1]⟩ 1 none) (by decide +kernel)) rfl (by rw [hml]; exact hl.1) rfl dX12_init_1 (Nat.le_of_ble_eq_true rfl) (Nat.le_of_ble_eq_true rfl) ?_
  refine W.eq (g2 := F0 m 4 ls []) rfl ?_
  refine lv_aload_n hx hb dX12_init_4 rfl (lv_at hl 0 rfl) ?_
  refine lv_sipush (v := 1620) hx hb dX12_init_5 (by decide) ?_
  refine kn_newi (ty := .byte) (N' := 1620) hx hb (hts (.arrayClass .byte) (by decide +kernel)) rfl hK hP hD hS hA 3 rfl (fun _ => rfl) (fun _ => rfl) (by decide) (by decide) (by decide) (Nat.le_of_ble_eq_true rfl) (Nat.le_of_ble_eq_true rfl) dX12_init_8 (fun q_143 f_144 H hP hD hS => ?_)
  have hP : va_P D vwCl [(h0, .inr (11, [v0, v1, v2, v3, v4, v5, v6, v7, v8, v9, v10, v11, v12, v13, v14, v15, v16, v17, v18, v19, v20, v21, v22, v23, v24, v25, v26, v27, v28, v29, v30, v31, v32, v33, v34, v35, v36, v37, v38, v39, v40, v41, v42, v43, v44, v45, v46, v47, v48, v49])), (q_143, .inl (cB, 1620, .inl f_144))] H := hP
  have hD : va_D A [(h0, .inr (11, [v0, v1, v2, v3, v4, v5, v6, v7, v8, v9, v10, v11, v12, v13, v14, v15, v16, v17, v18, v19, v20, v21, v22, v23, v24, v25, v26, v27, v28, v29, v30, v31, v32, v33, v34, v35, v36, v37, v38, v39, v40, v41, v42, v43, v44, v45, v46, v47, v48, v49])), (q_143, .inl (cB, 1620, .inl f_144))] := hD
  refine W.widen (k := 1) (n := 1620) (Nat.le_of_ble_eq_true rfl) (Nat.le_of_ble_eq_true rfl) ?_
  refine va_putF (D := D) (ci := 11) (v := .ref q_143) (ty := .array .byte) (C := RX12) (T := TX12) (N := 50) hx hb hts inw_X12_init_X12 tyX12 tyX12_ok nmX12 hown hK hP hD hS 0 rfl rfl 0 (by decide) (hts (.fieldLink RX12 61 "EarTableModel" "tape" "[B") (by decide +kernel)) (fun _ h9 => h9) rfl hin rfl (by decide +kernel) rfl rfl (Nat.le_of_ble_eq_true rfl) dX12_init_10 (fun H locs hP hD hS => ?_)
  have hP : va_P D vwCl [(h0, .inr (11, [.ref q_143, v1, v2, v3, v4, v5, v6, v7, v8, v9, v10, v11, v12, v13, v14, v15, v16, v17, v18, v19, v20, v21, v22, v23, v24, v25, v26, v27, v28, v29, v30, v31, v32, v33, v34, v35, v36, v37, v38, v39, v40, v41, v42, v43, v44, v45, v46, v47, v48, v49])), (q_143, .inl (cB, 1620, .inl f_144))] H := hP
  have hD : va_D A [(h0, .inr (11, [.ref q_143, v1, v2, v3, v4, v5, v6, v7, v8, v9, v10, v11, v12, v13, v14, v15, v16, v17, v18, v19, v20, v21, v22, v23, v24, v25, v26, v27, v28, v29, v30, v31, v32, v33, v34, v35, v36, v37, v38, v39, v40, v41, v42, v43, v44, v45, v46, v47, v48, v49])), (q_143, .inl (cB, 1620, .inl f_144))] := hD
  refine lv_aload_n hx hb dX12_init_13 rfl (lv_at hl 0 rfl) ?_
  refine lv_sipush (v := 1600) hx hb dX12_init_14 (by decide) ?_
  refine kn_newi (ty := .byte) (N' := 1600) hx hb (hts (.arrayClass .byte) (by decide +kernel)) rfl hK hP hD hS hA 3 rfl (fun _ => rfl) (fun _ => rfl) (by decide) (by decide) (by decide) (Nat.le_of_ble_eq_true rfl) (Nat.le_of_ble_eq_true rfl) dX12_init_17 (fun q_145 f_146 H hP hD hS => ?_)
  have hP : va_P D vwCl [(h0, .inr (11, [.ref q_143, v1, v2, v3, v4, v5, v6, v7, v8, v9, v10, v11, v12, v13, v14, v15, v16, v17, v18, v19, v20, v21, v22, v23, v24, v25, v26, v27, v28, v29, v30, v31, v32, v33, v34, v35, v36, v37, v38, v39, v40, v41, v42, v43, v44, v45, v46, v47, v48, v49])), (q_143, .inl (cB, 1620, .inl f_144)), (q_145, .inl (cB, 1600, .inl f_146))] H := hP
  have hD : va_D A [(h0, .inr (11, [.ref q_143, v1, v2, v3, v4, v5, v6, v7, v8, v9, v10, v11, v12, v13, v14, v15, v16, v17, v18, v19, v20, v21, v22, v23, v24, v25, v26, v27, v28, v29, v30, v31, v32, v33, v34, v35, v36, v37, v38, v39, v40, v41, v42, v43, v44, v45, v46, v47, v48, v49])), (q_143, .inl (cB, 1620, .inl f_144)), (q_145, .inl (cB, 1600, .inl f_146))] := hD
  refine W.widen (k := 2) (n := 3220) (Nat.le_of_ble_eq_true rfl) (Nat.le_of_ble_eq_true rfl) ?_
  refine va_putF (D := D) (ci := 11) (v := .ref q_145) (ty := .array .byte) (C := RX12) (T := TX12) (N := 50) hx hb hts inw_X12_init_X12 tyX12 tyX12_ok nmX12 hown hK hP hD hS 0 rfl rfl 1 (by decide) (hts (.fieldLink RX12 7 "EarTableModel" "text" "[B") (by decide +kernel)) (fun _ h9 => h9) rfl hin rfl (by decide +kernel) rfl rfl (Nat.le_of_ble_eq_true rfl) dX12_init_19 (fun H locs hP hD hS => ?_)
  have hP : va_P D vwCl [(h0, .inr (11, [.ref q_143, .ref q_145, v2, v3, v4, v5, v6, v7, v8, v9, v10, v11, v12, v13, v14, v15, v16, v17, v18, v19, v20, v21, v22, v23, v24, v25, v26, v27, v28, v29, v30, v31, v32, v33, v34, v35, v36, v37, v38, v39, v40, v41, v42, v43, v44, v45, v46, v47, v48, v49])), (q_143, .inl (cB, 1620, .inl f_144)), (q_145, .inl (cB, 1600, .inl f_146))] H := hP
  have hD : va_D A [(h0, .inr (11, [.ref q_143, .ref q_145, v2, v3, v4, v5, v6, v7, v8, v9, v10, v11, v12, v13, v14, v15, v16, v17, v18, v19, v20, v21, v22, v23, v24, v25, v26, v27, v28, v29, v30, v31, v32, v33, v34, v35, v36, v37, v38, v39, v40, v41, v42, v43, v44, v45, v46, v47, v48, v49])), (q_143, .inl (cB, 1620, .inl f_144)), (q_145, .inl (cB, 1600, .inl f_146))] := hD
  refine lv_aload_n hx hb dX12_init_22 rfl (lv_at hl 0 rfl) ?_
  refine lv_iconst (v := (-1)) hx hb dX12_init_23 (by decide) ?_
  refine va_put (D := D) (ci := 11) (v := .int (-1)) (ty := .int) (C := RX12) (T := TX12) (N := 50) hx hb hts inw_X12_init_X12 tyX12 tyX12_ok nmX12 hown hK hP hD hS 0 rfl rfl 5 (by decide) (hts (.fieldLink RX12 14 "EarTableModel" "faultPlace" "I") (by decide +kernel)) (fun _ h9 => h9) rfl (by decide +kernel) rfl rfl (Nat.le_of_ble_eq_true rfl) dX12_init_24 (fun H locs hP hD hS => ?_)
  have hP : va_P D vwCl [(h0, .inr (11, [.ref q_143, .ref q_145, v2, v3, v4, .int (-1), v6, v7, v8, v9, v10, v11, v12, v13, v14, v15, v16, v17, v18, v19, v20, v21, v22, v23, v24, v25, v26, v27, v28, v29, v30, v31, v32, v33, v34, v35, v36, v37, v38, v39, v40, v41, v42, v43, v44, v45, v46, v47, v48, v49])), (q_143, .inl (cB, 1620, .inl f_144)), (q_145, .inl (cB, 1600, .inl f_146))] H := hP
  have hD : va_D A [(h0, .inr (11, [.ref q_143, .ref q_145, v2, v3, v4, .int (-1), v6, v7, v8, v9, v10, v11, v12, v13, v14, v15, v16, v17, v18, v19, v20, v21, v22, v23, v24, v25, v26, v27, v28, v29, v30, v31, v32, v33, v34, v35, v36, v37, v38, v39, v40, v41, v42, v43, v44, v45, v46, v47, v48, v49])), (q_143, .inl (cB, 1620, .inl f_144)), (q_145, .inl (cB, 1600, .inl f_146))] := hD
  refine lv_aload_n hx hb dX12_init_27 rfl (lv_at hl 0 rfl) ?_
  refine lv_sipush (v := 528) hx hb dX12_init_28 (by decide) ?_
  refine kn_newi (ty := .int) (N' := 528) hx hb (hts (.arrayClass .int) (by decide +kernel)) rfl hK hP hD hS hA 0 rfl (fun _ => rfl) (fun _ => rfl) (by decide) (by decide) (by decide) (Nat.le_of_ble_eq_true rfl) (Nat.le_of_ble_eq_true rfl) dX12_init_31 (fun q_147 f_148 H hP hD hS => ?_)
  have hP : va_P D vwCl [(h0, .inr (11, [.ref q_143, .ref q_145, v2, v3, v4, .int (-1), v6, v7, v8, v9, v10, v11, v12, v13, v14, v15, v16, v17, v18, v19, v20, v21, v22, v23, v24, v25, v26, v27, v28, v29, v30, v31, v32, v33, v34, v35, v36, v37, v38, v39, v40, v41, v42, v43, v44, v45, v46, v47, v48, v49])), (q_143, .inl (cB, 1620, .inl f_144)), (q_145, .inl (cB, 1600, .inl f_146)), (q_147, .inl (cI, 528, .inl f_148))] H := hP
  have hD : va_D A [(h0, .inr (11, [.ref q_143, .ref q_145, v2, v3, v4, .int (-1), v6, v7, v8, v9, v10, v11, v12, v13, v14, v15, v16, v17, v18, v19, v20, v21, v22, v23, v24, v25, v26, v27, v28, v29, v30, v31, v32, v33, v34, v35, v36, v37, v38, v39, v40, v41, v42, v43, v44, v45, v46, v47, v48, v49])), (q_143, .inl (cB, 1620, .inl f_144)), (q_145, .inl (cB, 1600, .inl f_146)), (q_147, .inl (cI, 528, .inl f_148))] := hD
  refine W.widen (k := 3) (n := 3748) (Nat.le_of_ble_eq_true rfl) (Nat.le_of_ble_eq_true rfl) ?_
  refine va_putF (D := D) (ci := 11) (v := .ref q_147) (ty := .array .int) (C := RX12) (T := TX12) (N := 50) hx hb hts inw_X12_init_X12 tyX12 tyX12_ok nmX12 hown hK hP hD hS 0 rfl rfl 11 (by decide) (hts (.fieldLink RX12 140 "EarTableModel" "first" "[I") (by decide +kernel)) (fun _ h9 => h9) rfl hin rfl (by decide +kernel) rfl rfl (Nat.le_of_ble_eq_true rfl) dX12_init_33 (fun H locs hP hD hS => ?_)
  have hP : va_P D vwCl [(h0, .inr (11, [.ref q_143, .ref q_145, v2, v3, v4, .int (-1), v6, v7, v8, v9, v10, .ref q_147, v12, v13, v14, v15, v16, v17, v18, v19, v20, v21, v22, v23, v24, v25, v26, v27, v28, v29, v30, v31, v32, v33, v34, v35, v36, v37, v38, v39, v40, v41, v42, v43, v44, v45, v46, v47, v48, v49])), (q_143, .inl (cB, 1620, .inl f_144)), (q_145, .inl (cB, 1600, .inl f_146)), (q_147, .inl (cI, 528, .inl f_148))] H := hP
  have hD : va_D A [(h0, .inr (11, [.ref q_143, .ref q_145, v2, v3, v4, .int (-1), v6, v7, v8, v9, v10, .ref q_147, v12, v13, v14, v15, v16, v17, v18, v19, v20, v21, v22, v23, v24, v25, v26, v27, v28, v29, v30, v31, v32, v33, v34, v35, v36, v37, v38, v39, v40, v41, v42, v43, v44, v45, v46, v47, v48, v49])), (q_143, .inl (cB, 1620, .inl f_144)), (q_145, .inl (cB, 1600, .inl f_146)), (q_147, .inl (cI, 528, .inl f_148))] := hD
  refine lv_aload_n hx hb dX12_init_36 rfl (lv_at hl 0 rfl) ?_
  refine lv_sipush (v := 528) hx hb dX12_init_37 (by decide) ?_
  refine kn_newi (ty := .int) (N' := 528) hx hb (hts (.arrayClass .int) (by decide +kernel)) rfl hK hP hD hS hA 0 rfl (fun _ => rfl) (fun _ => rfl) (by decide) (by decide) (by decide) (Nat.le_of_ble_eq_true rfl) (Nat.le_of_ble_eq_true rfl) dX12_init_40 (fun q_149 f_150 H hP hD hS => ?_)
  have hP : va_P D vwCl [(h0, .inr (11, [.ref q_143, .ref q_145, v2, v3, v4, .int (-1), v6, v7, v8, v9, v10, .ref q_147, v12, v13, v14, v15, v16, v17, v18, v19, v20, v21, v22, v23, v24, v25, v26, v27, v28, v29, v30, v31, v32, v33, v34, v35, v36, v37, v38, v39, v40, v41, v42, v43, v44, v45, v46, v47, v48, v49])), (q_143, .inl (cB, 1620, .inl f_144)), (q_145, .inl (cB, 1600, .inl f_146)), (q_147, .inl (cI, 528, .inl f_148)), (q_149, .inl (cI, 528, .inl f_150))] H := hP
  have hD : va_D A [(h0, .inr (11, [.ref q_143, .ref q_145, v2, v3, v4, .int (-1), v6, v7, v8, v9, v10, .ref q_147, v12, v13, v14, v15, v16, v17, v18, v19, v20, v21, v22, v23, v24, v25, v26, v27, v28, v29, v30, v31, v32, v33, v34, v35, v36, v37, v38, v39, v40, v41, v42, v43, v44, v45, v46, v47, v48, v49])), (q_143, .inl (cB, 1620, .inl f_144)), (q_145, .inl (cB, 1600, .inl f_146)), (q_147, .inl (cI, 528, .inl f_148)), (q_149, .inl (cI, 528, .inl f_150))] := hD
  refine W.widen (k := 4) (n := 4276) (Nat.le_of_ble_eq_true rfl) (Nat.le_of_ble_eq_true rfl) ?_
  refine va_putF (D := D) (ci := 11) (v := .ref q_149) (ty := .array .int) (C := RX12) (T := TX12) (N := 50) hx hb hts inw_X12_init_X12 tyX12 tyX12_ok nmX12 hown hK hP hD hS 0 rfl rfl 12 (by decide) (hts (.fieldLink RX12 143 "EarTableModel" "over" "[I") (by decide +kernel)) (fun _ h9 => h9) rfl hin rfl (by decide +kernel) rfl rfl (Nat.le_of_ble_eq_true rfl) dX12_init_42 (fun H locs hP hD hS => ?_)
  have hP : va_P D vwCl [(h0, .inr (11, [.ref q_143, .ref q_145, v2, v3, v4, .int (-1), v6, v7, v8, v9, v10, .ref q_147, .ref q_149, v13, v14, v15, v16, v17, v18, v19, v20, v21, v22, v23, v24, v25, v26, v27, v28, v29, v30, v31, v32, v33, v34, v35, v36, v37, v38, v39, v40, v41, v42, v43, v44, v45, v46, v47, v48, v49])), (q_143, .inl (cB, 1620, .inl f_144)), (q_145, .inl (cB, 1600, .inl f_146)), (q_147, .inl (cI, 528, .inl f_148)), (q_149, .inl (cI, 528, .inl f_150))] H := hP
  have hD : va_D A [(h0, .inr (11, [.ref q_143, .ref q_145, v2, v3, v4, .int (-1), v6, v7, v8, v9, v10, .ref q_147, .ref q_149, v13, v14, v15, v16, v17, v18, v19, v20, v21, v22, v23, v24, v25, v26, v27, v28, v29, v30, v31, v32, v33, v34, v35, v36, v37, v38, v39, v40, v41, v42, v43, v44, v45, v46, v47, v48, v49])), (q_143, .inl (cB, 1620, .inl f_144)), (q_145, .inl (cB, 1600, .inl f_146)), (q_147, .inl (cI, 528, .inl f_148)), (q_149, .inl (cI, 528, .inl f_150))] := hD
  refine lv_aload_n hx hb dX12_init_45 rfl (lv_at hl 0 rfl) ?_
  refine lv_sipush (v := 528) hx hb dX12_init_46 (by decide) ?_
  refine kn_newi (ty := .int) (N' := 528) hx hb (hts (.arrayClass .int) (by decide +kernel)) rfl hK hP hD hS hA 0 rfl (fun _ => rfl) (fun _ => rfl) (by decide) (by decide) (by decide) (Nat.le_of_ble_eq_true rfl) (Nat.le_of_ble_eq_true rfl) dX12_init_49 (fun q_151 f_152 H hP hD hS => ?_)
  have hP : va_P D vwCl [(h0, .inr (11, [.ref q_143, .ref q_145, v2, v3, v4, .int (-1), v6, v7, v8, v9, v10, .ref q_147, .ref q_149, v13, v14, v15, v16, v17, v18, v19, v20, v21, v22, v23, v24, v25, v26, v27, v28, v29, v30, v31, v32, v33, v34, v35, v36, v37, v38, v39, v40, v41, v42, v43, v44, v45, v46, v47, v48, v49])), (q_143, .inl (cB, 1620, .inl f_144)), (q_145, .inl (cB, 1600, .inl f_146)), (q_147, .inl (cI, 528, .inl f_148)), (q_149, .inl (cI, 528, .inl f_150)), (q_151, .inl (cI, 528, .inl f_152))] H := hP
  have hD : va_D A [(h0, .inr (11, [.ref q_143, .ref q_145, v2, v3, v4, .int (-1), v6, v7, v8, v9, v10, .ref q_147, .ref q_149, v13, v14, v15, v16, v17, v18, v19, v20, v21, v22, v23, v24, v25, v26, v27, v28, v29, v30, v31, v32, v33, v34, v35, v36, v37, v38, v39, v40, v41, v42, v43, v44, v45, v46, v47, v48, v49])), (q_143, .inl (cB, 1620, .inl f_144)), (q_145, .inl (cB, 1600, .inl f_146)), (q_147, .inl (cI, 528, .inl f_148)), (q_149, .inl (cI, 528, .inl f_150)), (q_151, .inl (cI, 528, .inl f_152))] := hD
  refine W.widen (k := 5) (n := 4804) (Nat.le_of_ble_eq_true rfl) (Nat.le_of_ble_eq_true rfl) ?_
  refine va_putF (D := D) (ci := 11) (v := .ref q_151) (ty := .array .int) (C := RX12) (T := TX12) (N := 50) hx hb hts inw_X12_init_X12 tyX12 tyX12_ok nmX12 hown hK hP hD hS 0 rfl rfl 13 (by decide) (hts (.fieldLink RX12 146 "EarTableModel" "kind" "[I") (by decide +kernel)) (fun _ h9 => h9) rfl hin rfl (by decide +kernel) rfl rfl (Nat.le_of_ble_eq_true rfl) dX12_init_51 (fun H locs hP hD hS => ?_)
  have hP : va_P D vwCl [(h0, .inr (11, [.ref q_143, .ref q_145, v2, v3, v4, .int (-1), v6, v7, v8, v9, v10, .ref q_147, .ref q_149, .ref q_151, v14, v15, v16, v17, v18, v19, v20, v21, v22, v23, v24, v25, v26, v27, v28, v29, v30, v31, v32, v33, v34, v35, v36, v37, v38, v39, v40, v41, v42, v43, v44, v45, v46, v47, v48, v49])), (q_143, .inl (cB, 1620, .inl f_144)), (q_145, .inl (cB, 1600, .inl f_146)), (q_147, .inl (cI, 528, .inl f_148)), (q_149, .inl (cI, 528, .inl f_150)), (q_151, .inl (cI, 528, .inl f_152))] H := hP
  have hD : va_D A [(h0, .inr (11, [.ref q_143, .ref q_145, v2, v3, v4, .int (-1), v6, v7, v8, v9, v10, .ref q_147, .ref q_149, .ref q_151, v14, v15, v16, v17, v18, v19, v20, v21, v22, v23, v24, v25, v26, v27, v28, v29, v30, v31, v32, v33, v34, v35, v36, v37, v38, v39, v40, v41, v42, v43, v44, v45, v46, v47, v48, v49])), (q_143, .inl (cB, 1620, .inl f_144)), (q_145, .inl (cB, 1600, .inl f_146)), (q_147, .inl (cI, 528, .inl f_148)), (q_149, .inl (cI, 528, .inl f_150)), (q_151, .inl (cI, 528, .inl f_152))] := hD
  refine lv_aload_n hx hb dX12_init_54 rfl (lv_at hl 0 rfl) ?_
  refine lv_sipush (v := 528) hx hb dX12_init_55 (by decide) ?_
  refine kn_newi (ty := .int) (N' := 528) hx hb (hts (.arrayClass .int) (by decide +kernel)) rfl hK hP hD hS hA 0 rfl (fun _ => rfl) (fun _ => rfl) (by decide) (by decide) (by decide) (Nat.le_of_ble_eq_true rfl) (Nat.le_of_ble_eq_true rfl) dX12_init_58 (fun q_153 f_154 H hP hD hS => ?_)
  have hP : va_P D vwCl [(h0, .inr (11, [.ref q_143, .ref q_145, v2, v3, v4, .int (-1), v6, v7, v8, v9, v10, .ref q_147, .ref q_149, .ref q_151, v14, v15, v16, v17, v18, v19, v20, v21, v22, v23, v24, v25, v26, v27, v28, v29, v30, v31, v32, v33, v34, v35, v36, v37, v38, v39, v40, v41, v42, v43, v44, v45, v46, v47, v48, v49])), (q_143, .inl (cB, 1620, .inl f_144)), (q_145, .inl (cB, 1600, .inl f_146)), (q_147, .inl (cI, 528, .inl f_148)), (q_149, .inl (cI, 528, .inl f_150)), (q_151, .inl (cI, 528, .inl f_152)), (q_153, .inl (cI, 528, .inl f_154))] H := hP
  have hD : va_D A [(h0, .inr (11, [.ref q_143, .ref q_145, v2, v3, v4, .int (-1), v6, v7, v8, v9, v10, .ref q_147, .ref q_149, .ref q_151, v14, v15, v16, v17, v18, v19, v20, v21, v22, v23, v24, v25, v26, v27, v28, v29, v30, v31, v32, v33, v34, v35, v36, v37, v38, v39, v40, v41, v42, v43, v44, v45, v46, v47, v48, v49])), (q_143, .inl (cB, 1620, .inl f_144)), (q_145, .inl (cB, 1600, .inl f_146)), (q_147, .inl (cI, 528, .inl f_148)), (q_149, .inl (cI, 528, .inl f_150)), (q_151, .inl (cI, 528, .inl f_152)), (q_153, .inl (cI, 528, .inl f_154))] := hD
  refine W.widen (k := 6) (n := 5332) (Nat.le_of_ble_eq_true rfl) (Nat.le_of_ble_eq_true rfl) ?_
  refine va_putF (D := D) (ci := 11) (v := .ref q_153) (ty := .array .int) (C := RX12) (T := TX12) (N := 50) hx hb hts inw_X12_init_X12 tyX12 tyX12_ok nmX12 hown hK hP hD hS 0 rfl rfl 14 (by decide) (hts (.fieldLink RX12 149 "EarTableModel" "held" "[I") (by decide +kernel)) (fun _ h9 => h9) rfl hin rfl (by decide +kernel) rfl rfl (Nat.le_of_ble_eq_true rfl) dX12_init_60 (fun H locs hP hD hS => ?_)
  have hP : va_P D vwCl [(h0, .inr (11, [.ref q_143, .ref q_145, v2, v3, v4, .int (-1), v6, v7, v8, v9, v10, .ref q_147, .ref q_149, .ref q_151, .ref q_153, v15, v16, v17, v18, v19, v20, v21, v22, v23, v24, v25, v26, v27, v28, v29, v30, v31, v32, v33, v34, v35, v36, v37, v38, v39, v40, v41, v42, v43, v44, v45, v46, v47, v48, v49])), (q_143, .inl (cB, 1620, .inl f_144)), (q_145, .inl (cB, 1600, .inl f_146)), (q_147, .inl (cI, 528, .inl f_148)), (q_149, .inl (cI, 528, .inl f_150)), (q_151, .inl (cI, 528, .inl f_152)), (q_153, .inl (cI, 528, .inl f_154))] H := hP
  have hD : va_D A [(h0, .inr (11, [.ref q_143, .ref q_145, v2, v3, v4, .int (-1), v6, v7, v8, v9, v10, .ref q_147, .ref q_149, .ref q_151, .ref q_153, v15, v16, v17, v18, v19, v20, v21, v22, v23, v24, v25, v26, v27, v28, v29, v30, v31, v32, v33, v34, v35, v36, v37, v38, v39, v40, v41, v42, v43, v44, v45, v46, v47, v48, v49])), (q_143, .inl (cB, 1620, .inl f_144)), (q_145, .inl (cB, 1600, .inl f_146)), (q_147, .inl (cI, 528, .inl f_148)), (q_149, .inl (cI, 528, .inl f_150)), (q_151, .inl (cI, 528, .inl f_152)), (q_153, .inl (cI, 528, .inl f_154))] := hD
  refine lv_aload_n hx hb dX12_init_63 rfl (lv_at hl 0 rfl) ?_
  refine lv_iconst (v := 2) hx hb dX12_init_64 (by decide) ?_
  refine kn_newz (ty := .int) (N' := 2) hx hb (hts (.arrayClass .int) (by decide +kernel)) rfl hK hP hD hS hA 0 rfl (fun _ => rfl) (fun _ => rfl) (by decide) (by decide) (by decide) (Nat.le_of_ble_eq_true rfl) (Nat.le_of_ble_eq_true rfl) dX12_init_65 (fun q_155 H hP hD hS => ?_)
  have hP : va_P D vwCl [(h0, .inr (11, [.ref q_143, .ref q_145, v2, v3, v4, .int (-1), v6, v7, v8, v9, v10, .ref q_147, .ref q_149, .ref q_151, .ref q_153, v15, v16, v17, v18, v19, v20, v21, v22, v23, v24, v25, v26, v27, v28, v29, v30, v31, v32, v33, v34, v35, v36, v37, v38, v39, v40, v41, v42, v43, v44, v45, v46, v47, v48, v49])), (q_143, .inl (cB, 1620, .inl f_144)), (q_145, .inl (cB, 1600, .inl f_146)), (q_147, .inl (cI, 528, .inl f_148)), (q_149, .inl (cI, 528, .inl f_150)), (q_151, .inl (cI, 528, .inl f_152)), (q_153, .inl (cI, 528, .inl f_154)), (q_155, .inl (cI, 2, .inl (fun _ => 0)))] H := hP
  have hD : va_D A [(h0, .inr (11, [.ref q_143, .ref q_145, v2, v3, v4, .int (-1), v6, v7, v8, v9, v10, .ref q_147, .ref q_149, .ref q_151, .ref q_153, v15, v16, v17, v18, v19, v20, v21, v22, v23, v24, v25, v26, v27, v28, v29, v30, v31, v32, v33, v34, v35, v36, v37, v38, v39, v40, v41, v42, v43, v44, v45, v46, v47, v48, v49])), (q_143, .inl (cB, 1620, .inl f_144)), (q_145, .inl (cB, 1600, .inl f_146)), (q_147, .inl (cI, 528, .inl f_148)), (q_149, .inl (cI, 528, .inl f_150)), (q_151, .inl (cI, 528, .inl f_152)), (q_153, .inl (cI, 528, .inl f_154)), (q_155, .inl (cI, 2, .inl (fun _ => 0)))] := hD
  refine W.widen (k := 7) (n := 5334) (Nat.le_of_ble_eq_true rfl) (Nat.le_of_ble_eq_true rfl) ?_
  refine va_putF (D := D) (ci := 11) (v := .ref q_155) (ty := .array .int) (C := RX12) (T := TX12) (N := 50) hx hb hts inw_X12_init_X12 tyX12 tyX12_ok nmX12 hown hK hP hD hS 0 rfl rfl 15 (by decide) (hts (.fieldLink RX12 70 "EarTableModel" "levels" "[I") (by decide +kernel)) (fun _ h9 => h9) rfl hin rfl (by decide +kernel) rfl rfl (Nat.le_of_ble_eq_true rfl) dX12_init_67 (fun H locs hP hD hS => ?_)
  have hP : va_P D vwCl [(h0, .inr (11, [.ref q_143, .ref q_145, v2, v3, v4, .int (-1), v6, v7, v8, v9, v10, .ref q_147, .ref q_149, .ref q_151, .ref q_153, .ref q_155, v16, v17, v18, v19, v20, v21, v22, v23, v24, v25, v26, v27, v28, v29, v30, v31, v32, v33, v34, v35, v36, v37, v38, v39, v40, v41, v42, v43, v44, v45, v46, v47, v48, v49])), (q_143, .inl (cB, 1620, .inl f_144)), (q_145, .inl (cB, 1600, .inl f_146)), (q_147, .inl (cI, 528, .inl f_148)), (q_149, .inl (cI, 528, .inl f_150)), (q_151, .inl (cI, 528, .inl f_152)), (q_153, .inl (cI, 528, .inl f_154)), (q_155, .inl (cI, 2, .inl (fun _ => 0)))] H := hP
  have hD : va_D A [(h0, .inr (11, [.ref q_143, .ref q_145, v2, v3, v4, .int (-1), v6, v7, v8, v9, v10, .ref q_147, .ref q_149, .ref q_151, .ref q_153, .ref q_155, v16, v17, v18, v19, v20, v21, v22, v23, v24, v25, v26, v27, v28, v29, v30, v31, v32, v33, v34, v35, v36, v37, v38, v39, v40, v41, v42, v43, v44, v45, v46, v47, v48, v49])), (q_143, .inl (cB, 1620, .inl f_144)), (q_145, .inl (cB, 1600, .inl f_146)), (q_147, .inl (cI, 528, .inl f_148)), (q_149, .inl (cI, 528, .inl f_150)), (q_151, .inl (cI, 528, .inl f_152)), (q_153, .inl (cI, 528, .inl f_154)), (q_155, .inl (cI, 2, .inl (fun _ => 0)))] := hD
  refine lv_aload_n hx hb dX12_init_70 rfl (lv_at hl 0 rfl) ?_
  refine lv_iconst (v := 2) hx hb dX12_init_71 (by decide) ?_
  refine kn_newz (ty := .int) (N' := 2) hx hb (hts (.arrayClass .int) (by decide +kernel)) rfl hK hP hD hS hA 0 rfl (fun _ => rfl) (fun _ => rfl) (by decide) (by decide) (by decide) (Nat.le_of_ble_eq_true rfl) (Nat.le_of_ble_eq_true rfl) dX12_init_72 (fun q_156 H hP hD hS => ?_)
  have hP : va_P D vwCl [(h0, .inr (11, [.ref q_143, .ref q_145, v2, v3, v4, .int (-1), v6, v7, v8, v9, v10, .ref q_147, .ref q_149, .ref q_151, .ref q_153, .ref q_155, v16, v17, v18, v19, v20, v21, v22, v23, v24, v25, v26, v27, v28, v29, v30, v31, v32, v33, v34, v35, v36, v37, v38, v39, v40, v41, v42, v43, v44, v45, v46, v47, v48, v49])), (q_143, .inl (cB, 1620, .inl f_144)), (q_145, .inl (cB, 1600, .inl f_146)), (q_147, .inl (cI, 528, .inl f_148)), (q_149, .inl (cI, 528, .inl f_150)), (q_151, .inl (cI, 528, .inl f_152)), (q_153, .inl (cI, 528, .inl f_154)), (q_155, .inl (cI, 2, .inl (fun _ => 0))), (q_156, .inl (cI, 2, .inl (fun _ => 0)))] H := hP
  have hD : va_D A [(h0, .inr (11, [.ref q_143, .ref q_145, v2, v3, v4, .int (-1), v6, v7, v8, v9, v10, .ref q_147, .ref q_149, .ref q_151, .ref q_153, .ref q_155, v16, v17, v18, v19, v20, v21, v22, v23, v24, v25, v26, v27, v28, v29, v30, v31, v32, v33, v34, v35, v36, v37, v38, v39, v40, v41, v42, v43, v44, v45, v46, v47, v48, v49])), (q_143, .inl (cB, 1620, .inl f_144)), (q_145, .inl (cB, 1600, .inl f_146)), (q_147, .inl (cI, 528, .inl f_148)), (q_149, .inl (cI, 528, .inl f_150)), (q_151, .inl (cI, 528, .inl f_152)), (q_153, .inl (cI, 528, .inl f_154)), (q_155, .inl (cI, 2, .inl (fun _ => 0))), (q_156, .inl (cI, 2, .inl (fun _ => 0)))] := hD
  refine W.widen (k := 8) (n := 5336) (Nat.le_of_ble_eq_true rfl) (Nat.le_of_ble_eq_true rfl) ?_
  refine va_putF (D := D) (ci := 11) (v := .ref q_156) (ty := .array .int) (C := RX12) (T := TX12) (N := 50) hx hb hts inw_X12_init_X12 tyX12 tyX12_ok nmX12 hown hK hP hD hS 0 rfl rfl 16 (by decide) (hts (.fieldLink RX12 74 "EarTableModel" "lines" "[I") (by decide +kernel)) (fun _ h9 => h9) rfl hin rfl (by decide +kernel) rfl rfl (Nat.le_of_ble_eq_true rfl) dX12_init_74 (fun H locs hP hD hS => ?_)
  have hP : va_P D vwCl [(h0, .inr (11, [.ref q_143, .ref q_145, v2, v3, v4, .int (-1), v6, v7, v8, v9, v10, .ref q_147, .ref q_149, .ref q_151, .ref q_153, .ref q_155, .ref q_156, v17, v18, v19, v20, v21, v22, v23, v24, v25, v26, v27, v28, v29, v30, v31, v32, v33, v34, v35, v36, v37, v38, v39, v40, v41, v42, v43, v44, v45, v46, v47, v48, v49])), (q_143, .inl (cB, 1620, .inl f_144)), (q_145, .inl (cB, 1600, .inl f_146)), (q_147, .inl (cI, 528, .inl f_148)), (q_149, .inl (cI, 528, .inl f_150)), (q_151, .inl (cI, 528, .inl f_152)), (q_153, .inl (cI, 528, .inl f_154)), (q_155, .inl (cI, 2, .inl (fun _ => 0))), (q_156, .inl (cI, 2, .inl (fun _ => 0)))] H := hP
  have hD : va_D A [(h0, .inr (11, [.ref q_143, .ref q_145, v2, v3, v4, .int (-1), v6, v7, v8, v9, v10, .ref q_147, .ref q_149, .ref q_151, .ref q_153, .ref q_155, .ref q_156, v17, v18, v19, v20, v21, v22, v23, v24, v25, v26, v27, v28, v29, v30, v31, v32, v33, v34, v35, v36, v37, v38, v39, v40, v41, v42, v43, v44, v45, v46, v47, v48, v49])), (q_143, .inl (cB, 1620, .inl f_144)), (q_145, .inl (cB, 1600, .inl f_146)), (q_147, .inl (cI, 528, .inl f_148)), (q_149, .inl (cI, 528, .inl f_150)), (q_151, .inl (cI, 528, .inl f_152)), (q_153, .inl (cI, 528, .inl f_154)), (q_155, .inl (cI, 2, .inl (fun _ => 0))), (q_156, .inl (cI, 2, .inl (fun _ => 0)))] := hD
  refine lv_aload_n hx hb dX12_init_77 rfl (lv_at hl 0 rfl) ?_
  refine lv_iconst (v := 2) hx hb dX12_init_78 (by decide) ?_
  refine kn_newz (ty := .int) (N' := 2) hx hb (hts (.arrayClass .int) (by decide +kernel)) rfl hK hP hD hS hA 0 rfl (fun _ => rfl) (fun _ => rfl) (by decide) (by decide) (by decide) (Nat.le_of_ble_eq_true rfl) (Nat.le_of_ble_eq_true rfl) dX12_init_79 (fun q_157 H hP hD hS => ?_)
  have hP : va_P D vwCl [(h0, .inr (11, [.ref q_143, .ref q_145, v2, v3, v4, .int (-1), v6, v7, v8, v9, v10, .ref q_147, .ref q_149, .ref q_151, .ref q_153, .ref q_155, .ref q_156, v17, v18, v19, v20, v21, v22, v23, v24, v25, v26, v27, v28, v29, v30, v31, v32, v33, v34, v35, v36, v37, v38, v39, v40, v41, v42, v43, v44, v45, v46, v47, v48, v49])), (q_143, .inl (cB, 1620, .inl f_144)), (q_145, .inl (cB, 1600, .inl f_146)), (q_147, .inl (cI, 528, .inl f_148)), (q_149, .inl (cI, 528, .inl f_150)), (q_151, .inl (cI, 528, .inl f_152)), (q_153, .inl (cI, 528, .inl f_154)), (q_155, .inl (cI, 2, .inl (fun _ => 0))), (q_156, .inl (cI, 2, .inl (fun _ => 0))), (q_157, .inl (cI, 2, .inl (fun _ => 0)))] H := hP
  have hD : va_D A [(h0, .inr (11, [.ref q_143, .ref q_145, v2, v3, v4, .int (-1), v6, v7, v8, v9, v10, .ref q_147, .ref q_149, .ref q_151, .ref q_153, .ref q_155, .ref q_156, v17, v18, v19, v20, v21, v22, v23, v24, v25, v26, v27, v28, v29, v30, v31, v32, v33, v34, v35, v36, v37, v38, v39, v40, v41, v42, v43, v44, v45, v46, v47, v48, v49])), (q_143, .inl (cB, 1620, .inl f_144)), (q_145, .inl (cB, 1600, .inl f_146)), (q_147, .inl (cI, 528, .inl f_148)), (q_149, .inl (cI, 528, .inl f_150)), (q_151, .inl (cI, 528, .inl f_152)), (q_153, .inl (cI, 528, .inl f_154)), (q_155, .inl (cI, 2, .inl (fun _ => 0))), (q_156, .inl (cI, 2, .inl (fun _ => 0))), (q_157, .inl (cI, 2, .inl (fun _ => 0)))] := hD
  refine W.widen (k := 9) (n := 5338) (Nat.le_of_ble_eq_true rfl) (Nat.le_of_ble_eq_true rfl) ?_
  refine va_putF (D := D) (ci := 11) (v := .ref q_157) (ty := .array .int) (C := RX12) (T := TX12) (N := 50) hx hb hts inw_X12_init_X12 tyX12 tyX12_ok nmX12 hown hK hP hD hS 0 rfl rfl 17 (by decide) (hts (.fieldLink RX12 77 "EarTableModel" "columns" "[I") (by decide +kernel)) (fun _ h9 => h9) rfl hin rfl (by decide +kernel) rfl rfl (Nat.le_of_ble_eq_true rfl) dX12_init_81 (fun H locs hP hD hS => ?_)
  have hP : va_P D vwCl [(h0, .inr (11, [.ref q_143, .ref q_145, v2, v3, v4, .int (-1), v6, v7, v8, v9, v10, .ref q_147, .ref q_149, .ref q_151, .ref q_153, .ref q_155, .ref q_156, .ref q_157, v18, v19, v20, v21, v22, v23, v24, v25, v26, v27, v28, v29, v30, v31, v32, v33, v34, v35, v36, v37, v38, v39, v40, v41, v42, v43, v44, v45, v46, v47, v48, v49])), (q_143, .inl (cB, 1620, .inl f_144)), (q_145, .inl (cB, 1600, .inl f_146)), (q_147, .inl (cI, 528, .inl f_148)), (q_149, .inl (cI, 528, .inl f_150)), (q_151, .inl (cI, 528, .inl f_152)), (q_153, .inl (cI, 528, .inl f_154)), (q_155, .inl (cI, 2, .inl (fun _ => 0))), (q_156, .inl (cI, 2, .inl (fun _ => 0))), (q_157, .inl (cI, 2, .inl (fun _ => 0)))] H := hP
  have hD : va_D A [(h0, .inr (11, [.ref q_143, .ref q_145, v2, v3, v4, .int (-1), v6, v7, v8, v9, v10, .ref q_147, .ref q_149, .ref q_151, .ref q_153, .ref q_155, .ref q_156, .ref q_157, v18, v19, v20, v21, v22, v23, v24, v25, v26, v27, v28, v29, v30, v31, v32, v33, v34, v35, v36, v37, v38, v39, v40, v41, v42, v43, v44, v45, v46, v47, v48, v49])), (q_143, .inl (cB, 1620, .inl f_144)), (q_145, .inl (cB, 1600, .inl f_146)), (q_147, .inl (cI, 528, .inl f_148)), (q_149, .inl (cI, 528, .inl f_150)), (q_151, .inl (cI, 528, .inl f_152)), (q_153, .inl (cI, 528, .inl f_154)), (q_155, .inl (cI, 2, .inl (fun _ => 0))), (q_156, .inl (cI, 2, .inl (fun _ => 0))), (q_157, .inl (cI, 2, .inl (fun _ => 0)))] := hD
  refine lv_aload_n hx hb dX12_init_84 rfl (lv_at hl 0 rfl) ?_
  refine lv_sipush (v := 528) hx hb dX12_init_85 (by decide) ?_
  refine kn_newl (ty := .long) (N' := 528) hx hb (hts (.arrayClass .long) (by decide +kernel)) rfl hK hP hD hS hA 1 rfl (fun _ => rfl) (fun _ => rfl) (by decide) (by decide) (by decide) (Nat.le_of_ble_eq_true rfl) (Nat.le_of_ble_eq_true rfl) dX12_init_88 (fun q_158 f_159 H hP hD hS => ?_)
  have hP : va_P D vwCl [(h0, .inr (11, [.ref q_143, .ref q_145, v2, v3, v4, .int (-1), v6, v7, v8, v9, v10, .ref q_147, .ref q_149, .ref q_151, .ref q_153, .ref q_155, .ref q_156, .ref q_157, v18, v19, v20, v21, v22, v23, v24, v25, v26, v27, v28, v29, v30, v31, v32, v33, v34, v35, v36, v37, v38, v39, v40, v41, v42, v43, v44, v45, v46, v47, v48, v49])), (q_143, .inl (cB, 1620, .inl f_144)), (q_145, .inl (cB, 1600, .inl f_146)), (q_147, .inl (cI, 528, .inl f_148)), (q_149, .inl (cI, 528, .inl f_150)), (q_151, .inl (cI, 528, .inl f_152)), (q_153, .inl (cI, 528, .inl f_154)), (q_155, .inl (cI, 2, .inl (fun _ => 0))), (q_156, .inl (cI, 2, .inl (fun _ => 0))), (q_157, .inl (cI, 2, .inl (fun _ => 0))), (q_158, .inl (cJ, 528, .inr (.inl f_159)))] H := hP
  have hD : va_D A [(h0, .inr (11, [.ref q_143, .ref q_145, v2, v3, v4, .int (-1), v6, v7, v8, v9, v10, .ref q_147, .ref q_149, .ref q_151, .ref q_153, .ref q_155, .ref q_156, .ref q_157, v18, v19, v20, v21, v22, v23, v24, v25, v26, v27, v28, v29, v30, v31, v32, v33, v34, v35, v36, v37, v38, v39, v40, v41, v42, v43, v44, v45, v46, v47, v48, v49])), (q_143, .inl (cB, 1620, .inl f_144)), (q_145, .inl (cB, 1600, .inl f_146)), (q_147, .inl (cI, 528, .inl f_148)), (q_149, .inl (cI, 528, .inl f_150)), (q_151, .inl (cI, 528, .inl f_152)), (q_153, .inl (cI, 528, .inl f_154)), (q_155, .inl (cI, 2, .inl (fun _ => 0))), (q_156, .inl (cI, 2, .inl (fun _ => 0))), (q_157, .inl (cI, 2, .inl (fun _ => 0))), (q_158, .inl (cJ, 528, .inr (.inl f_159)))] := hD
  refine W.widen (k := 10) (n := 5866) (Nat.le_of_ble_eq_true rfl) (Nat.le_of_ble_eq_true rfl) ?_
  refine va_putF (D := D) (ci := 11) (v := .ref q_158) (ty := .array .long) (C := RX12) (T := TX12) (N := 50) hx hb hts inw_X12_init_X12 tyX12 tyX12_ok nmX12 hown hK hP hD hS 0 rfl rfl 18 (by decide) (hts (.fieldLink RX12 152 "EarTableModel" "named" "[J") (by decide +kernel)) (fun _ h9 => h9) rfl hin rfl (by decide +kernel) rfl rfl (Nat.le_of_ble_eq_true rfl) dX12_init_90 (fun H locs hP hD hS => ?_)
  have hP : va_P D vwCl [(h0, .inr (11, [.ref q_143, .ref q_145, v2, v3, v4, .int (-1), v6, v7, v8, v9, v10, .ref q_147, .ref q_149, .ref q_151, .ref q_153, .ref q_155, .ref q_156, .ref q_157, .ref q_158, v19, v20, v21, v22, v23, v24, v25, v26, v27, v28, v29, v30, v31, v32, v33, v34, v35, v36, v37, v38, v39, v40, v41, v42, v43, v44, v45, v46, v47, v48, v49])), (q_143, .inl (cB, 1620, .inl f_144)), (q_145, .inl (cB, 1600, .inl f_146)), (q_147, .inl (cI, 528, .inl f_148)), (q_149, .inl (cI, 528, .inl f_150)), (q_151, .inl (cI, 528, .inl f_152)), (q_153, .inl (cI, 528, .inl f_154)), (q_155, .inl (cI, 2, .inl (fun _ => 0))), (q_156, .inl (cI, 2, .inl (fun _ => 0))), (q_157, .inl (cI, 2, .inl (fun _ => 0))), (q_158, .inl (cJ, 528, .inr (.inl f_159)))] H := hP
  have hD : va_D A [(h0, .inr (11, [.ref q_143, .ref q_145, v2, v3, v4, .int (-1), v6, v7, v8, v9, v10, .ref q_147, .ref q_149, .ref q_151, .ref q_153, .ref q_155, .ref q_156, .ref q_157, .ref q_158, v19, v20, v21, v22, v23, v24, v25, v26, v27, v28, v29, v30, v31, v32, v33, v34, v35, v36, v37, v38, v39, v40, v41, v42, v43, v44, v45, v46, v47, v48, v49])), (q_143, .inl (cB, 1620, .inl f_144)), (q_145, .inl (cB, 1600, .inl f_146)), (q_147, .inl (cI, 528, .inl f_148)), (q_149, .inl (cI, 528, .inl f_150)), (q_151, .inl (cI, 528, .inl f_152)), (q_153, .inl (cI, 528, .inl f_154)), (q_155, .inl (cI, 2, .inl (fun _ => 0))), (q_156, .inl (cI, 2, .inl (fun _ => 0))), (q_157, .inl (cI, 2, .inl (fun _ => 0))), (q_158, .inl (cJ, 528, .inr (.inl f_159)))] := hD
  refine lv_aload_n hx hb dX12_init_93 rfl (lv_at hl 0 rfl) ?_
  refine lv_bipush (v := 60) hx hb dX12_init_94 (by decide) ?_
  refine kn_newi (ty := .boolean) (N' := 60) hx hb (hts (.arrayClass .boolean) (by decide +kernel)) rfl hK hP hD hS hA 2 rfl (fun _ => rfl) (fun _ => rfl) (by decide) (by decide) (by decide) (Nat.le_of_ble_eq_true rfl) (Nat.le_of_ble_eq_true rfl) dX12_init_96 (fun q_160 f_161 H hP hD hS => ?_)
  have hP : va_P D vwCl [(h0, .inr (11, [.ref q_143, .ref q_145, v2, v3, v4, .int (-1), v6, v7, v8, v9, v10, .ref q_147, .ref q_149, .ref q_151, .ref q_153, .ref q_155, .ref q_156, .ref q_157, .ref q_158, v19, v20, v21, v22, v23, v24, v25, v26, v27, v28, v29, v30, v31, v32, v33, v34, v35, v36, v37, v38, v39, v40, v41, v42, v43, v44, v45, v46, v47, v48, v49])), (q_143, .inl (cB, 1620, .inl f_144)), (q_145, .inl (cB, 1600, .inl f_146)), (q_147, .inl (cI, 528, .inl f_148)), (q_149, .inl (cI, 528, .inl f_150)), (q_151, .inl (cI, 528, .inl f_152)), (q_153, .inl (cI, 528, .inl f_154)), (q_155, .inl (cI, 2, .inl (fun _ => 0))), (q_156, .inl (cI, 2, .inl (fun _ => 0))), (q_157, .inl (cI, 2, .inl (fun _ => 0))), (q_158, .inl (cJ, 528, .inr (.inl f_159))), (q_160, .inl (cZ, 60, .inl f_161))] H := hP
  have hD : va_D A [(h0, .inr (11, [.ref q_143, .ref q_145, v2, v3, v4, .int (-1), v6, v7, v8, v9, v10, .ref q_147, .ref q_149, .ref q_151, .ref q_153, .ref q_155, .ref q_156, .ref q_157, .ref q_158, v19, v20, v21, v22, v23, v24, v25, v26, v27, v28, v29, v30, v31, v32, v33, v34, v35, v36, v37, v38, v39, v40, v41, v42, v43, v44, v45, v46, v47, v48, v49])), (q_143, .inl (cB, 1620, .inl f_144)), (q_145, .inl (cB, 1600, .inl f_146)), (q_147, .inl (cI, 528, .inl f_148)), (q_149, .inl (cI, 528, .inl f_150)), (q_151, .inl (cI, 528, .inl f_152)), (q_153, .inl (cI, 528, .inl f_154)), (q_155, .inl (cI, 2, .inl (fun _ => 0))), (q_156, .inl (cI, 2, .inl (fun _ => 0))), (q_157, .inl (cI, 2, .inl (fun _ => 0))), (q_158, .inl (cJ, 528, .inr (.inl f_159))), (q_160, .inl (cZ, 60, .inl f_161))] := hD
  refine W.widen (k := 11) (n := 5926) (Nat.le_of_ble_eq_true rfl) (Nat.le_of_ble_eq_true rfl) ?_
  refine va_putF (D := D) (ci := 11) (v := .ref q_160) (ty := .array .boolean) (C := RX12) (T := TX12) (N := 50) hx hb hts inw_X12_init_X12 tyX12 tyX12_ok nmX12 hown hK hP hD hS 0 rfl rfl 19 (by decide) (hts (.fieldLink RX12 125 "EarTableModel" "isSum" "[Z") (by decide +kernel)) (fun _ h9 => h9) rfl hin rfl (by decide +kernel) rfl rfl (Nat.le_of_ble_eq_true rfl) dX12_init_98 (fun H locs hP hD hS => ?_)
  have hP : va_P D vwCl [(h0, .inr (11, [.ref q_143, .ref q_145, v2, v3, v4, .int (-1), v6, v7, v8, v9, v10, .ref q_147, .ref q_149, .ref q_151, .ref q_153, .ref q_155, .ref q_156, .ref q_157, .ref q_158, .ref q_160, v20, v21, v22, v23, v24, v25, v26, v27, v28, v29, v30, v31, v32, v33, v34, v35, v36, v37, v38, v39, v40, v41, v42, v43, v44, v45, v46, v47, v48, v49])), (q_143, .inl (cB, 1620, .inl f_144)), (q_145, .inl (cB, 1600, .inl f_146)), (q_147, .inl (cI, 528, .inl f_148)), (q_149, .inl (cI, 528, .inl f_150)), (q_151, .inl (cI, 528, .inl f_152)), (q_153, .inl (cI, 528, .inl f_154)), (q_155, .inl (cI, 2, .inl (fun _ => 0))), (q_156, .inl (cI, 2, .inl (fun _ => 0))), (q_157, .inl (cI, 2, .inl (fun _ => 0))), (q_158, .inl (cJ, 528, .inr (.inl f_159))), (q_160, .inl (cZ, 60, .inl f_161))] H := hP
  have hD : va_D A [(h0, .inr (11, [.ref q_143, .ref q_145, v2, v3, v4, .int (-1), v6, v7, v8, v9, v10, .ref q_147, .ref q_149, .ref q_151, .ref q_153, .ref q_155, .ref q_156, .ref q_157, .ref q_158, .ref q_160, v20, v21, v22, v23, v24, v25, v26, v27, v28, v29, v30, v31, v32, v33, v34, v35, v36, v37, v38, v39, v40, v41, v42, v43, v44, v45, v46, v47, v48, v49])), (q_143, .inl (cB, 1620, .inl f_144)), (q_145, .inl (cB, 1600, .inl f_146)), (q_147, .inl (cI, 528, .inl f_148)), (q_149, .inl (cI, 528, .inl f_150)), (q_151, .inl (cI, 528, .inl f_152)), (q_153, .inl (cI, 528, .inl f_154)), (q_155, .inl (cI, 2, .inl (fun _ => 0))), (q_156, .inl (cI, 2, .inl (fun _ => 0))), (q_157, .inl (cI, 2, .inl (fun _ => 0))), (q_158, .inl (cJ, 528, .inr (.inl f_159))), (q_160, .inl (cZ, 60, .inl f_161))] := hD
  refine lv_aload_n hx hb dX12_init_101 rfl (lv_at hl 0 rfl) ?_
  refine lv_bipush (v := 30) hx hb dX12_init_102 (by decide) ?_
  refine kn_newi (ty := .int) (N' := 30) hx hb (hts (.arrayClass .int) (by decide +kernel)) rfl hK hP hD hS hA 0 rfl (fun _ => rfl) (fun _ => rfl) (by decide) (by decide) (by decide) (Nat.le_of_ble_eq_true rfl) (Nat.le_of_ble_eq_true rfl) dX12_init_104 (fun q_162 f_163 H hP hD hS => ?_)
  have hP : va_P D vwCl [(h0, .inr (11, [.ref q_143, .ref q_145, v2, v3, v4, .int (-1), v6, v7, v8, v9, v10, .ref q_147, .ref q_149, .ref q_151, .ref q_153, .ref q_155, .ref q_156, .ref q_157, .ref q_158, .ref q_160, v20, v21, v22, v23, v24, v25, v26, v27, v28, v29, v30, v31, v32, v33, v34, v35, v36, v37, v38, v39, v40, v41, v42, v43, v44, v45, v46, v47, v48, v49])), (q_143, .inl (cB, 1620, .inl f_144)), (q_145, .inl (cB, 1600, .inl f_146)), (q_147, .inl (cI, 528, .inl f_148)), (q_149, .inl (cI, 528, .inl f_150)), (q_151, .inl (cI, 528, .inl f_152)), (q_153, .inl (cI, 528, .inl f_154)), (q_155, .inl (cI, 2, .inl (fun _ => 0))), (q_156, .inl (cI, 2, .inl (fun _ => 0))), (q_157, .inl (cI, 2, .inl (fun _ => 0))), (q_158, .inl (cJ, 528, .inr (.inl f_159))), (q_160, .inl (cZ, 60, .inl f_161)), (q_162, .inl (cI, 30, .inl f_163))] H := hP
  have hD : va_D A [(h0, .inr (11, [.ref q_143, .ref q_145, v2, v3, v4, .int (-1), v6, v7, v8, v9, v10, .ref q_147, .ref q_149, .ref q_151, .ref q_153, .ref q_155, .ref q_156, .ref q_157, .ref q_158, .ref q_160, v20, v21, v22, v23, v24, v25, v26, v27, v28, v29, v30, v31, v32, v33, v34, v35, v36, v37, v38, v39, v40, v41, v42, v43, v44, v45, v46, v47, v48, v49])), (q_143, .inl (cB, 1620, .inl f_144)), (q_145, .inl (cB, 1600, .inl f_146)), (q_147, .inl (cI, 528, .inl f_148)), (q_149, .inl (cI, 528, .inl f_150)), (q_151, .inl (cI, 528, .inl f_152)), (q_153, .inl (cI, 528, .inl f_154)), (q_155, .inl (cI, 2, .inl (fun _ => 0))), (q_156, .inl (cI, 2, .inl (fun _ => 0))), (q_157, .inl (cI, 2, .inl (fun _ => 0))), (q_158, .inl (cJ, 528, .inr (.inl f_159))), (q_160, .inl (cZ, 60, .inl f_161)), (q_162, .inl (cI, 30, .inl f_163))] := hD
  refine W.widen (k := 12) (n := 5956) (Nat.le_of_ble_eq_true rfl) (Nat.le_of_ble_eq_true rfl) ?_
  refine va_putF (D := D) (ci := 11) (v := .ref q_162) (ty := .array .int) (C := RX12) (T := TX12) (N := 50) hx hb hts inw_X12_init_X12 tyX12 tyX12_ok nmX12 hown hK hP hD hS 0 rfl rfl 23 (by decide) (hts (.fieldLink RX12 110 "EarTableModel" "view" "[I") (by decide +kernel)) (fun _ h9 => h9) rfl hin rfl (by decide +kernel) rfl rfl (Nat.le_of_ble_eq_true rfl) dX12_init_106 (fun H locs hP hD hS => ?_)
  have hP : va_P D vwCl [(h0, .inr (11, [.ref q_143, .ref q_145, v2, v3, v4, .int (-1), v6, v7, v8, v9, v10, .ref q_147, .ref q_149, .ref q_151, .ref q_153, .ref q_155, .ref q_156, .ref q_157, .ref q_158, .ref q_160, v20, v21, v22, .ref q_162, v24, v25, v26, v27, v28, v29, v30, v31, v32, v33, v34, v35, v36, v37, v38, v39, v40, v41, v42, v43, v44, v45, v46, v47, v48, v49])), (q_143, .inl (cB, 1620, .inl f_144)), (q_145, .inl (cB, 1600, .inl f_146)), (q_147, .inl (cI, 528, .inl f_148)), (q_149, .inl (cI, 528, .inl f_150)), (q_151, .inl (cI, 528, .inl f_152)), (q_153, .inl (cI, 528, .inl f_154)), (q_155, .inl (cI, 2, .inl (fun _ => 0))), (q_156, .inl (cI, 2, .inl (fun _ => 0))), (q_157, .inl (cI, 2, .inl (fun _ => 0))), (q_158, .inl (cJ, 528, .inr (.inl f_159))), (q_160, .inl (cZ, 60, .inl f_161)), (q_162, .inl (cI, 30, .inl f_163))] H := hP
  have hD : va_D A [(h0, .inr (11, [.ref q_143, .ref q_145, v2, v3, v4, .int (-1), v6, v7, v8, v9, v10, .ref q_147, .ref q_149, .ref q_151, .ref q_153, .ref q_155, .ref q_156, .ref q_157, .ref q_158, .ref q_160, v20, v21, v22, .ref q_162, v24, v25, v26, v27, v28, v29, v30, v31, v32, v33, v34, v35, v36, v37, v38, v39, v40, v41, v42, v43, v44, v45, v46, v47, v48, v49])), (q_143, .inl (cB, 1620, .inl f_144)), (q_145, .inl (cB, 1600, .inl f_146)), (q_147, .inl (cI, 528, .inl f_148)), (q_149, .inl (cI, 528, .inl f_150)), (q_151, .inl (cI, 528, .inl f_152)), (q_153, .inl (cI, 528, .inl f_154)), (q_155, .inl (cI, 2, .inl (fun _ => 0))), (q_156, .inl (cI, 2, .inl (fun _ => 0))), (q_157, .inl (cI, 2, .inl (fun _ => 0))), (q_158, .inl (cJ, 528, .inr (.inl f_159))), (q_160, .inl (cZ, 60, .inl f_161)), (q_162, .inl (cI, 30, .inl f_163))] := hD
  refine lv_aload_n hx hb dX12_init_109 rfl (lv_at hl 0 rfl) ?_
  refine lv_bipush (v := 30) hx hb dX12_init_110 (by decide) ?_
  refine kn_newi (ty := .int) (N' := 30) hx hb (hts (.arrayClass .int) (by decide +kernel)) rfl hK hP hD hS hA 0 rfl (fun _ => rfl) (fun _ => rfl) (by decide) (by decide) (by decide) (Nat.le_of_ble_eq_true rfl) (Nat.le_of_ble_eq_true rfl) dX12_init_112 (fun q_164 f_165 H hP hD hS => ?_)
  have hP : va_P D vwCl [(h0, .inr (11, [.ref q_143, .ref q_145, v2, v3, v4, .int (-1), v6, v7, v8, v9, v10, .ref q_147, .ref q_149, .ref q_151, .ref q_153, .ref q_155, .ref q_156, .ref q_157, .ref q_158, .ref q_160, v20, v21, v22, .ref q_162, v24, v25, v26, v27, v28, v29, v30, v31, v32, v33, v34, v35, v36, v37, v38, v39, v40, v41, v42, v43, v44, v45, v46, v47, v48, v49])), (q_143, .inl (cB, 1620, .inl f_144)), (q_145, .inl (cB, 1600, .inl f_146)), (q_147, .inl (cI, 528, .inl f_148)), (q_149, .inl (cI, 528, .inl f_150)), (q_151, .inl (cI, 528, .inl f_152)), (q_153, .inl (cI, 528, .inl f_154)), (q_155, .inl (cI, 2, .inl (fun _ => 0))), (q_156, .inl (cI, 2, .inl (fun _ => 0))), (q_157, .inl (cI, 2, .inl (fun _ => 0))), (q_158, .inl (cJ, 528, .inr (.inl f_159))), (q_160, .inl (cZ, 60, .inl f_161)), (q_162, .inl (cI, 30, .inl f_163)), (q_164, .inl (cI, 30, .inl f_165))] H := hP
  have hD : va_D A [(h0, .inr (11, [.ref q_143, .ref q_145, v2, v3, v4, .int (-1), v6, v7, v8, v9, v10, .ref q_147, .ref q_149, .ref q_151, .ref q_153, .ref q_155, .ref q_156, .ref q_157, .ref q_158, .ref q_160, v20, v21, v22, .ref q_162, v24, v25, v26, v27, v28, v29, v30, v31, v32, v33, v34, v35, v36, v37, v38, v39, v40, v41, v42, v43, v44, v45, v46, v47, v48, v49])), (q_143, .inl (cB, 1620, .inl f_144)), (q_145, .inl (cB, 1600, .inl f_146)), (q_147, .inl (cI, 528, .inl f_148)), (q_149, .inl (cI, 528, .inl f_150)), (q_151, .inl (cI, 528, .inl f_152)), (q_153, .inl (cI, 528, .inl f_154)), (q_155, .inl (cI, 2, .inl (fun _ => 0))), (q_156, .inl (cI, 2, .inl (fun _ => 0))), (q_157, .inl (cI, 2, .inl (fun _ => 0))), (q_158, .inl (cJ, 528, .inr (.inl f_159))), (q_160, .inl (cZ, 60, .inl f_161)), (q_162, .inl (cI, 30, .inl f_163)), (q_164, .inl (cI, 30, .inl f_165))] := hD
  refine W.widen (k := 13) (n := 5986) (Nat.le_of_ble_eq_true rfl) (Nat.le_of_ble_eq_true rfl) ?_
  refine va_putF (D := D) (ci := 11) (v := .ref q_164) (ty := .array .int) (C := RX12) (T := TX12) (N := 50) hx hb hts inw_X12_init_X12 tyX12 tyX12_ok nmX12 hown hK hP hD hS 0 rfl rfl 24 (by decide) (hts (.fieldLink RX12 182 "EarTableModel" "was" "[I") (by decide +kernel)) (fun _ h9 => h9) rfl hin rfl (by decide +kernel) rfl rfl (Nat.le_of_ble_eq_true rfl) dX12_init_114 (fun H locs hP hD hS => ?_)
  have hP : va_P D vwCl [(h0, .inr (11, [.ref q_143, .ref q_145, v2, v3, v4, .int (-1), v6, v7, v8, v9, v10, .ref q_147, .ref q_149, .ref q_151, .ref q_153, .ref q_155, .ref q_156, .ref q_157, .ref q_158, .ref q_160, v20, v21, v22, .ref q_162, .ref q_164, v25, v26, v27, v28, v29, v30, v31, v32, v33, v34, v35, v36, v37, v38, v39, v40, v41, v42, v43, v44, v45, v46, v47, v48, v49])), (q_143, .inl (cB, 1620, .inl f_144)), (q_145, .inl (cB, 1600, .inl f_146)), (q_147, .inl (cI, 528, .inl f_148)), (q_149, .inl (cI, 528, .inl f_150)), (q_151, .inl (cI, 528, .inl f_152)), (q_153, .inl (cI, 528, .inl f_154)), (q_155, .inl (cI, 2, .inl (fun _ => 0))), (q_156, .inl (cI, 2, .inl (fun _ => 0))), (q_157, .inl (cI, 2, .inl (fun _ => 0))), (q_158, .inl (cJ, 528, .inr (.inl f_159))), (q_160, .inl (cZ, 60, .inl f_161)), (q_162, .inl (cI, 30, .inl f_163)), (q_164, .inl (cI, 30, .inl f_165))] H := hP
  have hD : va_D A [(h0, .inr (11, [.ref q_143, .ref q_145, v2, v3, v4, .int (-1), v6, v7, v8, v9, v10, .ref q_147, .ref q_149, .ref q_151, .ref q_153, .ref q_155, .ref q_156, .ref q_157, .ref q_158, .ref q_160, v20, v21, v22, .ref q_162, .ref q_164, v25, v26, v27, v28, v29, v30, v31, v32, v33, v34, v35, v36, v37, v38, v39, v40, v41, v42, v43, v44, v45, v46, v47, v48, v49])), (q_143, .inl (cB, 1620, .inl f_144)), (q_145, .inl (cB, 1600, .inl f_146)), (q_147, .inl (cI, 528, .inl f_148)), (q_149, .inl (cI, 528, .inl f_150)), (q_151, .inl (cI, 528, .inl f_152)), (q_153, .inl (cI, 528, .inl f_154)), (q_155, .inl (cI, 2, .inl (fun _ => 0))), (q_156, .inl (cI, 2, .inl (fun _ => 0))), (q_157, .inl (cI, 2, .inl (fun _ => 0))), (q_158, .inl (cJ, 528, .inr (.inl f_159))), (q_160, .inl (cZ, 60, .inl f_161)), (q_162, .inl (cI, 30, .inl f_163)), (q_164, .inl (cI, 30, .inl f_165))] := hD
  refine lv_aload_n hx hb dX12_init_117 rfl (lv_at hl 0 rfl) ?_
  refine lv_bipush (v := 30) hx hb dX12_init_118 (by decide) ?_
  refine kn_newi (ty := .int) (N' := 30) hx hb (hts (.arrayClass .int) (by decide +kernel)) rfl hK hP hD hS hA 0 rfl (fun _ => rfl) (fun _ => rfl) (by decide) (by decide) (by decide) (Nat.le_of_ble_eq_true rfl) (Nat.le_of_ble_eq_true rfl) dX12_init_120 (fun q_166 f_167 H hP hD hS => ?_)
  have hP : va_P D vwCl [(h0, .inr (11, [.ref q_143, .ref q_145, v2, v3, v4, .int (-1), v6, v7, v8, v9, v10, .ref q_147, .ref q_149, .ref q_151, .ref q_153, .ref q_155, .ref q_156, .ref q_157, .ref q_158, .ref q_160, v20, v21, v22, .ref q_162, .ref q_164, v25, v26, v27, v28, v29, v30, v31, v32, v33, v34, v35, v36, v37, v38, v39, v40, v41, v42, v43, v44, v45, v46, v47, v48, v49])), (q_143, .inl (cB, 1620, .inl f_144)), (q_145, .inl (cB, 1600, .inl f_146)), (q_147, .inl (cI, 528, .inl f_148)), (q_149, .inl (cI, 528, .inl f_150)), (q_151, .inl (cI, 528, .inl f_152)), (q_153, .inl (cI, 528, .inl f_154)), (q_155, .inl (cI, 2, .inl (fun _ => 0))), (q_156, .inl (cI, 2, .inl (fun _ => 0))), (q_157, .inl (cI, 2, .inl (fun _ => 0))), (q_158, .inl (cJ, 528, .inr (.inl f_159))), (q_160, .inl (cZ, 60, .inl f_161)), (q_162, .inl (cI, 30, .inl f_163)), (q_164, .inl (cI, 30, .inl f_165)), (q_166, .inl (cI, 30, .inl f_167))] H := hP
  have hD : va_D A [(h0, .inr (11, [.ref q_143, .ref q_145, v2, v3, v4, .int (-1), v6, v7, v8, v9, v10, .ref q_147, .ref q_149, .ref q_151, .ref q_153, .ref q_155, .ref q_156, .ref q_157, .ref q_158, .ref q_160, v20, v21, v22, .ref q_162, .ref q_164, v25, v26, v27, v28, v29, v30, v31, v32, v33, v34, v35, v36, v37, v38, v39, v40, v41, v42, v43, v44, v45, v46, v47, v48, v49])), (q_143, .inl (cB, 1620, .inl f_144)), (q_145, .inl (cB, 1600, .inl f_146)), (q_147, .inl (cI, 528, .inl f_148)), (q_149, .inl (cI, 528, .inl f_150)), (q_151, .inl (cI, 528, .inl f_152)), (q_153, .inl (cI, 528, .inl f_154)), (q_155, .inl (cI, 2, .inl (fun _ => 0))), (q_156, .inl (cI, 2, .inl (fun _ => 0))), (q_157, .inl (cI, 2, .inl (fun _ => 0))), (q_158, .inl (cJ, 528, .inr (.inl f_159))), (q_160, .inl (cZ, 60, .inl f_161)), (q_162, .inl (cI, 30, .inl f_163)), (q_164, .inl (cI, 30, .inl f_165)), (q_166, .inl (cI, 30, .inl f_167))] := hD
  refine W.widen (k := 14) (n := 6016) (Nat.le_of_ble_eq_true rfl) (Nat.le_of_ble_eq_true rfl) ?_
  refine va_putF (D := D) (ci := 11) (v := .ref q_166) (ty := .array .int) (C := RX12) (T := TX12) (N := 50) hx hb hts inw_X12_init_X12 tyX12 tyX12_ok nmX12 hown hK hP hD hS 0 rfl rfl 25 (by decide) (hts (.fieldLink RX12 185 "EarTableModel" "wanted" "[I") (by decide +kernel)) (fun _ h9 => h9) rfl hin rfl (by decide +kernel) rfl rfl (Nat.le_of_ble_eq_true rfl) dX12_init_122 (fun H locs hP hD hS => ?_)
  have hP : va_P D vwCl [(h0, .inr (11, [.ref q_143, .ref q_145, v2, v3, v4, .int (-1), v6, v7, v8, v9, v10, .ref q_147, .ref q_149, .ref q_151, .ref q_153, .ref q_155, .ref q_156, .ref q_157, .ref q_158, .ref q_160, v20, v21, v22, .ref q_162, .ref q_164, .ref q_166, v26, v27, v28, v29, v30, v31, v32, v33, v34, v35, v36, v37, v38, v39, v40, v41, v42, v43, v44, v45, v46, v47, v48, v49])), (q_143, .inl (cB, 1620, .inl f_144)), (q_145, .inl (cB, 1600, .inl f_146)), (q_147, .inl (cI, 528, .inl f_148)), (q_149, .inl (cI, 528, .inl f_150)), (q_151, .inl (cI, 528, .inl f_152)), (q_153, .inl (cI, 528, .inl f_154)), (q_155, .inl (cI, 2, .inl (fun _ => 0))), (q_156, .inl (cI, 2, .inl (fun _ => 0))), (q_157, .inl (cI, 2, .inl (fun _ => 0))), (q_158, .inl (cJ, 528, .inr (.inl f_159))), (q_160, .inl (cZ, 60, .inl f_161)), (q_162, .inl (cI, 30, .inl f_163)), (q_164, .inl (cI, 30, .inl f_165)), (q_166, .inl (cI, 30, .inl f_167))] H := hP
  have hD : va_D A [(h0, .inr (11, [.ref q_143, .ref q_145, v2, v3, v4, .int (-1), v6, v7, v8, v9, v10, .ref q_147, .ref q_149, .ref q_151, .ref q_153, .ref q_155, .ref q_156, .ref q_157, .ref q_158, .ref q_160, v20, v21, v22, .ref q_162, .ref q_164, .ref q_166, v26, v27, v28, v29, v30, v31, v32, v33, v34, v35, v36, v37, v38, v39, v40, v41, v42, v43, v44, v45, v46, v47, v48, v49])), (q_143, .inl (cB, 1620, .inl f_144)), (q_145, .inl (cB, 1600, .inl f_146)), (q_147, .inl (cI, 528, .inl f_148)), (q_149, .inl (cI, 528, .inl f_150)), (q_151, .inl (cI, 528, .inl f_152)), (q_153, .inl (cI, 528, .inl f_154)), (q_155, .inl (cI, 2, .inl (fun _ => 0))), (q_156, .inl (cI, 2, .inl (fun _ => 0))), (q_157, .inl (cI, 2, .inl (fun _ => 0))), (q_158, .inl (cJ, 528, .inr (.inl f_159))), (q_160, .inl (cZ, 60, .inl f_161)), (q_162, .inl (cI, 30, .inl f_163)), (q_164, .inl (cI, 30, .inl f_165)), (q_166, .inl (cI, 30, .inl f_167))] := hD
  refine lv_aload_n hx hb dX12_init_125 rfl (lv_at hl 0 rfl) ?_
  refine lv_iconst (v := (-1)) hx hb dX12_init_126 (by decide) ?_
  refine va_put (D := D) (ci := 11) (v := .int (-1)) (ty := .int) (C := RX12) (T := TX12) (N := 50) hx hb hts inw_X12_init_X12 tyX12 tyX12_ok nmX12 hown hK hP hD hS 0 rfl rfl 27 (by decide) (hts (.fieldLink RX12 116 "EarTableModel" "placeLine" "I") (by decide +kernel)) (fun _ h9 => h9) rfl (by decide +kernel) rfl rfl (Nat.le_of_ble_eq_true rfl) dX12_init_127 (fun H locs hP hD hS => ?_)
  have hP : va_P D vwCl [(h0, .inr (11, [.ref q_143, .ref q_145, v2, v3, v4, .int (-1), v6, v7, v8, v9, v10, .ref q_147, .ref q_149, .ref q_151, .ref q_153, .ref q_155, .ref q_156, .ref q_157, .ref q_158, .ref q_160, v20, v21, v22, .ref q_162, .ref q_164, .ref q_166, v26, .int (-1), v28, v29, v30, v31, v32, v33, v34, v35, v36, v37, v38, v39, v40, v41, v42, v43, v44, v45, v46, v47, v48, v49])), (q_143, .inl (cB, 1620, .inl f_144)), (q_145, .inl (cB, 1600, .inl f_146)), (q_147, .inl (cI, 528, .inl f_148)), (q_149, .inl (cI, 528, .inl f_150)), (q_151, .inl (cI, 528, .inl f_152)), (q_153, .inl (cI, 528, .inl f_154)), (q_155, .inl (cI, 2, .inl (fun _ => 0))), (q_156, .inl (cI, 2, .inl (fun _ => 0))), (q_157, .inl (cI, 2, .inl (fun _ => 0))), (q_158, .inl (cJ, 528, .inr (.inl f_159))), (q_160, .inl (cZ, 60, .inl f_161)), (q_162, .inl (cI, 30, .inl f_163)), (q_164, .inl (cI, 30, .inl f_165)), (q_166, .inl (cI, 30, .inl f_167))] H := hP
  have hD : va_D A [(h0, .inr (11, [.ref q_143, .ref q_145, v2, v3, v4, .int (-1), v6, v7, v8, v9, v10, .ref q_147, .ref q_149, .ref q_151, .ref q_153, .ref q_155, .ref q_156, .ref q_157, .ref q_158, .ref q_160, v20, v21, v22, .ref q_162, .ref q_164, .ref q_166, v26, .int (-1), v28, v29, v30, v31, v32, v33, v34, v35, v36, v37, v38, v39, v40, v41, v42, v43, v44, v45, v46, v47, v48, v49])), (q_143, .inl (cB, 1620, .inl f_144)), (q_145, .inl (cB, 1600, .inl f_146)), (q_147, .inl (cI, 528, .inl f_148)), (q_149, .inl (cI, 528, .inl f_150)), (q_151, .inl (cI, 528, .inl f_152)), (q_153, .inl (cI, 528, .inl f_154)), (q_155, .inl (cI, 2, .inl (fun _ => 0))), (q_156, .inl (cI, 2, .inl (fun _ => 0))), (q_157, .inl (cI, 2, .inl (fun _ => 0))), (q_158, .inl (cJ, 528, .inr (.inl f_159))), (q_160, .inl (cZ, 60, .inl f_161)), (q_162, .inl (cI, 30, .inl f_163)), (q_164, .inl (cI, 30, .inl f_165)), (q_166, .inl (cI, 30, .inl f_167))] := hD
  refine lv_aload_n hx hb dX12_init_130 rfl (lv_at hl 0 rfl) ?_
  refine lv_bipush (v := 6) hx hb dX12_init_131 (by decide) ?_
  refine kn_newi (ty := .int) (N' := 6) hx hb (hts (.arrayClass .int) (by decide +kernel)) rfl hK hP hD hS hA 0 rfl (fun _ => rfl) (fun _ => rfl) (by decide) (by decide) (by decide) (Nat.le_of_ble_eq_true rfl) (Nat.le_of_ble_eq_true rfl) dX12_init_133 (fun q_168 f_169 H hP hD hS => ?_)
  have hP : va_P D vwCl [(h0, .inr (11, [.ref q_143, .ref q_145, v2, v3, v4, .int (-1), v6, v7, v8, v9, v10, .ref q_147, .ref q_149, .ref q_151, .ref q_153, .ref q_155, .ref q_156, .ref q_157, .ref q_158, .ref q_160, v20, v21, v22, .ref q_162, .ref q_164, .ref q_166, v26, .int (-1), v28, v29, v30, v31, v32, v33, v34, v35, v36, v37, v38, v39, v40, v41, v42, v43, v44, v45, v46, v47, v48, v49])), (q_143, .inl (cB, 1620, .inl f_144)), (q_145, .inl (cB, 1600, .inl f_146)), (q_147, .inl (cI, 528, .inl f_148)), (q_149, .inl (cI, 528, .inl f_150)), (q_151, .inl (cI, 528, .inl f_152)), (q_153, .inl (cI, 528, .inl f_154)), (q_155, .inl (cI, 2, .inl (fun _ => 0))), (q_156, .inl (cI, 2, .inl (fun _ => 0))), (q_157, .inl (cI, 2, .inl (fun _ => 0))), (q_158, .inl (cJ, 528, .inr (.inl f_159))), (q_160, .inl (cZ, 60, .inl f_161)), (q_162, .inl (cI, 30, .inl f_163)), (q_164, .inl (cI, 30, .inl f_165)), (q_166, .inl (cI, 30, .inl f_167)), (q_168, .inl (cI, 6, .inl f_169))] H := hP
  have hD : va_D A [(h0, .inr (11, [.ref q_143, .ref q_145, v2, v3, v4, .int (-1), v6, v7, v8, v9, v10, .ref q_147, .ref q_149, .ref q_151, .ref q_153, .ref q_155, .ref q_156, .ref q_157, .ref q_158, .ref q_160, v20, v21, v22, .ref q_162, .ref q_164, .ref q_166, v26, .int (-1), v28, v29, v30, v31, v32, v33, v34, v35, v36, v37, v38, v39, v40, v41, v42, v43, v44, v45, v46, v47, v48, v49])), (q_143, .inl (cB, 1620, .inl f_144)), (q_145, .inl (cB, 1600, .inl f_146)), (q_147, .inl (cI, 528, .inl f_148)), (q_149, .inl (cI, 528, .inl f_150)), (q_151, .inl (cI, 528, .inl f_152)), (q_153, .inl (cI, 528, .inl f_154)), (q_155, .inl (cI, 2, .inl (fun _ => 0))), (q_156, .inl (cI, 2, .inl (fun _ => 0))), (q_157, .inl (cI, 2, .inl (fun _ => 0))), (q_158, .inl (cJ, 528, .inr (.inl f_159))), (q_160, .inl (cZ, 60, .inl f_161)), (q_162, .inl (cI, 30, .inl f_163)), (q_164, .inl (cI, 30, .inl f_165)), (q_166, .inl (cI, 30, .inl f_167)), (q_168, .inl (cI, 6, .inl f_169))] := hD
  refine W.widen (k := 15) (n := 6022) (Nat.le_of_ble_eq_true rfl) (Nat.le_of_ble_eq_true rfl) ?_
  refine va_putF (D := D) (ci := 11) (v := .ref q_168) (ty := .array .int) (C := RX12) (T := TX12) (N := 50) hx hb hts inw_X12_init_X12 tyX12 tyX12_ok nmX12 hown hK hP hD hS 0 rfl rfl 29 (by decide) (hts (.fieldLink RX12 216 "EarTableModel" "toldWhat" "[I") (by decide +kernel)) (fun _ h9 => h9) rfl hin rfl (by decide +kernel) rfl rfl (Nat.le_of_ble_eq_true rfl) dX12_init_135 (fun H locs hP hD hS => ?_)
  have hP : va_P D vwCl [(h0, .inr (11, [.ref q_143, .ref q_145, v2, v3, v4, .int (-1), v6, v7, v8, v9, v10, .ref q_147, .ref q_149, .ref q_151, .ref q_153, .ref q_155, .ref q_156, .ref q_157, .ref q_158, .ref q_160, v20, v21, v22, .ref q_162, .ref q_164, .ref q_166, v26, .int (-1), v28, .ref q_168, v30, v31, v32, v33, v34, v35, v36, v37, v38, v39, v40, v41, v42, v43, v44, v45, v46, v47, v48, v49])), (q_143, .inl (cB, 1620, .inl f_144)), (q_145, .inl (cB, 1600, .inl f_146)), (q_147, .inl (cI, 528, .inl f_148)), (q_149, .inl (cI, 528, .inl f_150)), (q_151, .inl (cI, 528, .inl f_152)), (q_153, .inl (cI, 528, .inl f_154)), (q_155, .inl (cI, 2, .inl (fun _ => 0))), (q_156, .inl (cI, 2, .inl (fun _ => 0))), (q_157, .inl (cI, 2, .inl (fun _ => 0))), (q_158, .inl (cJ, 528, .inr (.inl f_159))), (q_160, .inl (cZ, 60, .inl f_161)), (q_162, .inl (cI, 30, .inl f_163)), (q_164, .inl (cI, 30, .inl f_165)), (q_166, .inl (cI, 30, .inl f_167)), (q_168, .inl (cI, 6, .inl f_169))] H := hP
  have hD : va_D A [(h0, .inr (11, [.ref q_143, .ref q_145, v2, v3, v4, .int (-1), v6, v7, v8, v9, v10, .ref q_147, .ref q_149, .ref q_151, .ref q_153, .ref q_155, .ref q_156, .ref q_157, .ref q_158, .ref q_160, v20, v21, v22, .ref q_162, .ref q_164, .ref q_166, v26, .int (-1), v28, .ref q_168, v30, v31, v32, v33, v34, v35, v36, v37, v38, v39, v40, v41, v42, v43, v44, v45, v46, v47, v48, v49])), (q_143, .inl (cB, 1620, .inl f_144)), (q_145, .inl (cB, 1600, .inl f_146)), (q_147, .inl (cI, 528, .inl f_148)), (q_149, .inl (cI, 528, .inl f_150)), (q_151, .inl (cI, 528, .inl f_152)), (q_153, .inl (cI, 528, .inl f_154)), (q_155, .inl (cI, 2, .inl (fun _ => 0))), (q_156, .inl (cI, 2, .inl (fun _ => 0))), (q_157, .inl (cI, 2, .inl (fun _ => 0))), (q_158, .inl (cJ, 528, .inr (.inl f_159))), (q_160, .inl (cZ, 60, .inl f_161)), (q_162, .inl (cI, 30, .inl f_163)), (q_164, .inl (cI, 30, .inl f_165)), (q_166, .inl (cI, 30, .inl f_167)), (q_168, .inl (cI, 6, .inl f_169))] := hD
  refine lv_aload_n hx hb dX12_init_138 rfl (lv_at hl 0 rfl) ?_
  refine lv_bipush (v := 6) hx hb dX12_init_139 (by decide) ?_
  refine kn_newi (ty := .int) (N' := 6) hx hb (hts (.arrayClass .int) (by decide +kernel)) rfl hK hP hD hS hA 0 rfl (fun _ => rfl) (fun _ => rfl) (by decide) (by decide) (by decide) (Nat.le_of_ble_eq_true rfl) (Nat.le_of_ble_eq_true rfl) dX12_init_141 (fun q_170 f_171 H hP hD hS => ?_)
  have hP : va_P D vwCl [(h0, .inr (11, [.ref q_143, .ref q_145, v2, v3, v4, .int (-1), v6, v7, v8, v9, v10, .ref q_147, .ref q_149, .ref q_151, .ref q_153, .ref q_155, .ref q_156, .ref q_157, .ref q_158, .ref q_160, v20, v21, v22, .ref q_162, .ref q_164, .ref q_166, v26, .int (-1), v28, .ref q_168, v30, v31, v32, v33, v34, v35, v36, v37, v38, v39, v40, v41, v42, v43, v44, v45, v46, v47, v48, v49])), (q_143, .inl (cB, 1620, .inl f_144)), (q_145, .inl (cB, 1600, .inl f_146)), (q_147, .inl (cI, 528, .inl f_148)), (q_149, .inl (cI, 528, .inl f_150)), (q_151, .inl (cI, 528, .inl f_152)), (q_153, .inl (cI, 528, .inl f_154)), (q_155, .inl (cI, 2, .inl (fun _ => 0))), (q_156, .inl (cI, 2, .inl (fun _ => 0))), (q_157, .inl (cI, 2, .inl (fun _ => 0))), (q_158, .inl (cJ, 528, .inr (.inl f_159))), (q_160, .inl (cZ, 60, .inl f_161)), (q_162, .inl (cI, 30, .inl f_163)), (q_164, .inl (cI, 30, .inl f_165)), (q_166, .inl (cI, 30, .inl f_167)), (q_168, .inl (cI, 6, .inl f_169)), (q_170, .inl (cI, 6, .inl f_171))] H := hP
  have hD : va_D A [(h0, .inr (11, [.ref q_143, .ref q_145, v2, v3, v4, .int (-1), v6, v7, v8, v9, v10, .ref q_147, .ref q_149, .ref q_151, .ref q_153, .ref q_155, .ref q_156, .ref q_157, .ref q_158, .ref q_160, v20, v21, v22, .ref q_162, .ref q_164, .ref q_166, v26, .int (-1), v28, .ref q_168, v30, v31, v32, v33, v34, v35, v36, v37, v38, v39, v40, v41, v42, v43, v44, v45, v46, v47, v48, v49])), (q_143, .inl (cB, 1620, .inl f_144)), (q_145, .inl (cB, 1600, .inl f_146)), (q_147, .inl (cI, 528, .inl f_148)), (q_149, .inl (cI, 528, .inl f_150)), (q_151, .inl (cI, 528, .inl f_152)), (q_153, .inl (cI, 528, .inl f_154)), (q_155, .inl (cI, 2, .inl (fun _ => 0))), (q_156, .inl (cI, 2, .inl (fun _ => 0))), (q_157, .inl (cI, 2, .inl (fun _ => 0))), (q_158, .inl (cJ, 528, .inr (.inl f_159))), (q_160, .inl (cZ, 60, .inl f_161)), (q_162, .inl (cI, 30, .inl f_163)), (q_164, .inl (cI, 30, .inl f_165)), (q_166, .inl (cI, 30, .inl f_167)), (q_168, .inl (cI, 6, .inl f_169)), (q_170, .inl (cI, 6, .inl f_171))] := hD
  refine W.widen (k := 16) (n := 6028) (Nat.le_of_ble_eq_true rfl) (Nat.le_of_ble_eq_true rfl) ?_
  refine va_putF (D := D) (ci := 11) (v := .ref q_170) (ty := .array .int) (C := RX12) (T := TX12) (N := 50) hx hb hts inw_X12_init_X12 tyX12 tyX12_ok nmX12 hown hK hP hD hS 0 rfl rfl 30 (by decide) (hts (.fieldLink RX12 219 "EarTableModel" "toldLevel" "[I") (by decide +kernel)) (fun _ h9 => h9) rfl hin rfl (by decide +kernel) rfl rfl (Nat.le_of_ble_eq_true rfl) dX12_init_143 (fun H locs hP hD hS => ?_)
  have hP : va_P D vwCl [(h0, .inr (11, [.ref q_143, .ref q_145, v2, v3, v4, .int (-1), v6, v7, v8, v9, v10, .ref q_147, .ref q_149, .ref q_151, .ref q_153, .ref q_155, .ref q_156, .ref q_157, .ref q_158, .ref q_160, v20, v21, v22, .ref q_162, .ref q_164, .ref q_166, v26, .int (-1), v28, .ref q_168, .ref q_170, v31, v32, v33, v34, v35, v36, v37, v38, v39, v40, v41, v42, v43, v44, v45, v46, v47, v48, v49])), (q_143, .inl (cB, 1620, .inl f_144)), (q_145, .inl (cB, 1600, .inl f_146)), (q_147, .inl (cI, 528, .inl f_148)), (q_149, .inl (cI, 528, .inl f_150)), (q_151, .inl (cI, 528, .inl f_152)), (q_153, .inl (cI, 528, .inl f_154)), (q_155, .inl (cI, 2, .inl (fun _ => 0))), (q_156, .inl (cI, 2, .inl (fun _ => 0))), (q_157, .inl (cI, 2, .inl (fun _ => 0))), (q_158, .inl (cJ, 528, .inr (.inl f_159))), (q_160, .inl (cZ, 60, .inl f_161)), (q_162, .inl (cI, 30, .inl f_163)), (q_164, .inl (cI, 30, .inl f_165)), (q_166, .inl (cI, 30, .inl f_167)), (q_168, .inl (cI, 6, .inl f_169)), (q_170, .inl (cI, 6, .inl f_171))] H := hP
  have hD : va_D A [(h0, .inr (11, [.ref q_143, .ref q_145, v2, v3, v4, .int (-1), v6, v7, v8, v9, v10, .ref q_147, .ref q_149, .ref q_151, .ref q_153, .ref q_155, .ref q_156, .ref q_157, .ref q_158, .ref q_160, v20, v21, v22, .ref q_162, .ref q_164, .ref q_166, v26, .int (-1), v28, .ref q_168, .ref q_170, v31, v32, v33, v34, v35, v36, v37, v38, v39, v40, v41, v42, v43, v44, v45, v46, v47, v48, v49])), (q_143, .inl (cB, 1620, .inl f_144)), (q_145, .inl (cB, 1600, .inl f_146)), (q_147, .inl (cI, 528, .inl f_148)), (q_149, .inl (cI, 528, .inl f_150)), (q_151, .inl (cI, 528, .inl f_152)), (q_153, .inl (cI, 528, .inl f_154)), (q_155, .inl (cI, 2, .inl (fun _ => 0))), (q_156, .inl (cI, 2, .inl (fun _ => 0))), (q_157, .inl (cI, 2, .inl (fun _ => 0))), (q_158, .inl (cJ, 528, .inr (.inl f_159))), (q_160, .inl (cZ, 60, .inl f_161)), (q_162, .inl (cI, 30, .inl f_163)), (q_164, .inl (cI, 30, .inl f_165)), (q_166, .inl (cI, 30, .inl f_167)), (q_168, .inl (cI, 6, .inl f_169)), (q_170, .inl (cI, 6, .inl f_171))] := hD
  refine lv_aload_n hx hb dX12_init_146 rfl (lv_at hl 0 rfl) ?_
  refine lv_bipush (v := 6) hx hb dX12_init_147 (by decide) ?_
  refine kn_newi (ty := .int) (N' := 6) hx hb (hts (.arrayClass .int) (by decide +kernel)) rfl hK hP hD hS hA 0 rfl (fun _ => rfl) (fun _ => rfl) (by decide) (by decide) (by decide) (Nat.le_of_ble_eq_true rfl) (Nat.le_of_ble_eq_true rfl) dX12_init_149 (fun q_172 f_173 H hP hD hS => ?_)
  have hP : va_P D vwCl [(h0, .inr (11, [.ref q_143, .ref q_145, v2, v3, v4, .int (-1), v6, v7, v8, v9, v10, .ref q_147, .ref q_149, .ref q_151, .ref q_153, .ref q_155, .ref q_156, .ref q_157, .ref q_158, .ref q_160, v20, v21, v22, .ref q_162, .ref q_164, .ref q_166, v26, .int (-1), v28, .ref q_168, .ref q_170, v31, v32, v33, v34, v35, v36, v37, v38, v39, v40, v41, v42, v43, v44, v45, v46, v47, v48, v49])), (q_143, .inl (cB, 1620, .inl f_144)), (q_145, .inl (cB, 1600, .inl f_146)), (q_147, .inl (cI, 528, .inl f_148)), (q_149, .inl (cI, 528, .inl f_150)), (q_151, .inl (cI, 528, .inl f_152)), (q_153, .inl (cI, 528, .inl f_154)), (q_155, .inl (cI, 2, .inl (fun _ => 0))), (q_156, .inl (cI, 2, .inl (fun _ => 0))), (q_157, .inl (cI, 2, .inl (fun _ => 0))), (q_158, .inl (cJ, 528, .inr (.inl f_159))), (q_160, .inl (cZ, 60, .inl f_161)), (q_162, .inl (cI, 30, .inl f_163)), (q_164, .inl (cI, 30, .inl f_165)), (q_166, .inl (cI, 30, .inl f_167)), (q_168, .inl (cI, 6, .inl f_169)), (q_170, .inl (cI, 6, .inl f_171)), (q_172, .inl (cI, 6, .inl f_173))] H := hP
  have hD : va_D A [(h0, .inr (11, [.ref q_143, .ref q_145, v2, v3, v4, .int (-1), v6, v7, v8, v9, v10, .ref q_147, .ref q_149, .ref q_151, .ref q_153, .ref q_155, .ref q_156, .ref q_157, .ref q_158, .ref q_160, v20, v21, v22, .ref q_162, .ref q_164, .ref q_166, v26, .int (-1), v28, .ref q_168, .ref q_170, v31, v32, v33, v34, v35, v36, v37, v38, v39, v40, v41, v42, v43, v44, v45, v46, v47, v48, v49])), (q_143, .inl (cB, 1620, .inl f_144)), (q_145, .inl (cB, 1600, .inl f_146)), (q_147, .inl (cI, 528, .inl f_148)), (q_149, .inl (cI, 528, .inl f_150)), (q_151, .inl (cI, 528, .inl f_152)), (q_153, .inl (cI, 528, .inl f_154)), (q_155, .inl (cI, 2, .inl (fun _ => 0))), (q_156, .inl (cI, 2, .inl (fun _ => 0))), (q_157, .inl (cI, 2, .inl (fun _ => 0))), (q_158, .inl (cJ, 528, .inr (.inl f_159))), (q_160, .inl (cZ, 60, .inl f_161)), (q_162, .inl (cI, 30, .inl f_163)), (q_164, .inl (cI, 30, .inl f_165)), (q_166, .inl (cI, 30, .inl f_167)), (q_168, .inl (cI, 6, .inl f_169)), (q_170, .inl (cI, 6, .inl f_171)), (q_172, .inl (cI, 6, .inl f_173))] := hD
  refine W.widen (k := 17) (n := 6034) (Nat.le_of_ble_eq_true rfl) (Nat.le_of_ble_eq_true rfl) ?_
  refine va_putF (D := D) (ci := 11) (v := .ref q_172) (ty := .array .int) (C := RX12) (T := TX12) (N := 50) hx hb hts inw_X12_init_X12 tyX12 tyX12_ok nmX12 hown hK hP hD hS 0 rfl rfl 31 (by decide) (hts (.fieldLink RX12 222 "EarTableModel" "toldAt" "[I") (by decide +kernel)) (fun _ h9 => h9) rfl hin rfl (by decide +kernel) rfl rfl (Nat.le_of_ble_eq_true rfl) dX12_init_151 (fun H locs hP hD hS => ?_)
  have hP : va_P D vwCl [(h0, .inr (11, [.ref q_143, .ref q_145, v2, v3, v4, .int (-1), v6, v7, v8, v9, v10, .ref q_147, .ref q_149, .ref q_151, .ref q_153, .ref q_155, .ref q_156, .ref q_157, .ref q_158, .ref q_160, v20, v21, v22, .ref q_162, .ref q_164, .ref q_166, v26, .int (-1), v28, .ref q_168, .ref q_170, .ref q_172, v32, v33, v34, v35, v36, v37, v38, v39, v40, v41, v42, v43, v44, v45, v46, v47, v48, v49])), (q_143, .inl (cB, 1620, .inl f_144)), (q_145, .inl (cB, 1600, .inl f_146)), (q_147, .inl (cI, 528, .inl f_148)), (q_149, .inl (cI, 528, .inl f_150)), (q_151, .inl (cI, 528, .inl f_152)), (q_153, .inl (cI, 528, .inl f_154)), (q_155, .inl (cI, 2, .inl (fun _ => 0))), (q_156, .inl (cI, 2, .inl (fun _ => 0))), (q_157, .inl (cI, 2, .inl (fun _ => 0))), (q_158, .inl (cJ, 528, .inr (.inl f_159))), (q_160, .inl (cZ, 60, .inl f_161)), (q_162, .inl (cI, 30, .inl f_163)), (q_164, .inl (cI, 30, .inl f_165)), (q_166, .inl (cI, 30, .inl f_167)), (q_168, .inl (cI, 6, .inl f_169)), (q_170, .inl (cI, 6, .inl f_171)), (q_172, .inl (cI, 6, .inl f_173))] H := hP
  have hD : va_D A [(h0, .inr (11, [.ref q_143, .ref q_145, v2, v3, v4, .int (-1), v6, v7, v8, v9, v10, .ref q_147, .ref q_149, .ref q_151, .ref q_153, .ref q_155, .ref q_156, .ref q_157, .ref q_158, .ref q_160, v20, v21, v22, .ref q_162, .ref q_164, .ref q_166, v26, .int (-1), v28, .ref q_168, .ref q_170, .ref q_172, v32, v33, v34, v35, v36, v37, v38, v39, v40, v41, v42, v43, v44, v45, v46, v47, v48, v49])), (q_143, .inl (cB, 1620, .inl f_144)), (q_145, .inl (cB, 1600, .inl f_146)), (q_147, .inl (cI, 528, .inl f_148)), (q_149, .inl (cI, 528, .inl f_150)), (q_151, .inl (cI, 528, .inl f_152)), (q_153, .inl (cI, 528, .inl f_154)), (q_155, .inl (cI, 2, .inl (fun _ => 0))), (q_156, .inl (cI, 2, .inl (fun _ => 0))), (q_157, .inl (cI, 2, .inl (fun _ => 0))), (q_158, .inl (cJ, 528, .inr (.inl f_159))), (q_160, .inl (cZ, 60, .inl f_161)), (q_162, .inl (cI, 30, .inl f_163)), (q_164, .inl (cI, 30, .inl f_165)), (q_166, .inl (cI, 30, .inl f_167)), (q_168, .inl (cI, 6, .inl f_169)), (q_170, .inl (cI, 6, .inl f_171)), (q_172, .inl (cI, 6, .inl f_173))] := hD
  refine lv_aload_n hx hb dX12_init_154 rfl (lv_at hl 0 rfl) ?_
  refine lv_bipush (v := 50) hx hb dX12_init_155 (by decide) ?_
  refine kn_newi (ty := .int) (N' := 50) hx hb (hts (.arrayClass .int) (by decide +kernel)) rfl hK hP hD hS hA 0 rfl (fun _ => rfl) (fun _ => rfl) (by decide) (by decide) (by decide) (Nat.le_of_ble_eq_true rfl) (Nat.le_of_ble_eq_true rfl) dX12_init_157 (fun q_174 f_175 H hP hD hS => ?_)
  have hP : va_P D vwCl [(h0, .inr (11, [.ref q_143, .ref q_145, v2, v3, v4, .int (-1), v6, v7, v8, v9, v10, .ref q_147, .ref q_149, .ref q_151, .ref q_153, .ref q_155, .ref q_156, .ref q_157, .ref q_158, .ref q_160, v20, v21, v22, .ref q_162, .ref q_164, .ref q_166, v26, .int (-1), v28, .ref q_168, .ref q_170, .ref q_172, v32, v33, v34, v35, v36, v37, v38, v39, v40, v41, v42, v43, v44, v45, v46, v47, v48, v49])), (q_143, .inl (cB, 1620, .inl f_144)), (q_145, .inl (cB, 1600, .inl f_146)), (q_147, .inl (cI, 528, .inl f_148)), (q_149, .inl (cI, 528, .inl f_150)), (q_151, .inl (cI, 528, .inl f_152)), (q_153, .inl (cI, 528, .inl f_154)), (q_155, .inl (cI, 2, .inl (fun _ => 0))), (q_156, .inl (cI, 2, .inl (fun _ => 0))), (q_157, .inl (cI, 2, .inl (fun _ => 0))), (q_158, .inl (cJ, 528, .inr (.inl f_159))), (q_160, .inl (cZ, 60, .inl f_161)), (q_162, .inl (cI, 30, .inl f_163)), (q_164, .inl (cI, 30, .inl f_165)), (q_166, .inl (cI, 30, .inl f_167)), (q_168, .inl (cI, 6, .inl f_169)), (q_170, .inl (cI, 6, .inl f_171)), (q_172, .inl (cI, 6, .inl f_173)), (q_174, .inl (cI, 50, .inl f_175))] H := hP
  have hD : va_D A [(h0, .inr (11, [.ref q_143, .ref q_145, v2, v3, v4, .int (-1), v6, v7, v8, v9, v10, .ref q_147, .ref q_149, .ref q_151, .ref q_153, .ref q_155, .ref q_156, .ref q_157, .ref q_158, .ref q_160, v20, v21, v22, .ref q_162, .ref q_164, .ref q_166, v26, .int (-1), v28, .ref q_168, .ref q_170, .ref q_172, v32, v33, v34, v35, v36, v37, v38, v39, v40, v41, v42, v43, v44, v45, v46, v47, v48, v49])), (q_143, .inl (cB, 1620, .inl f_144)), (q_145, .inl (cB, 1600, .inl f_146)), (q_147, .inl (cI, 528, .inl f_148)), (q_149, .inl (cI, 528, .inl f_150)), (q_151, .inl (cI, 528, .inl f_152)), (q_153, .inl (cI, 528, .inl f_154)), (q_155, .inl (cI, 2, .inl (fun _ => 0))), (q_156, .inl (cI, 2, .inl (fun _ => 0))), (q_157, .inl (cI, 2, .inl (fun _ => 0))), (q_158, .inl (cJ, 528, .inr (.inl f_159))), (q_160, .inl (cZ, 60, .inl f_161)), (q_162, .inl (cI, 30, .inl f_163)), (q_164, .inl (cI, 30, .inl f_165)), (q_166, .inl (cI, 30, .inl f_167)), (q_168, .inl (cI, 6, .inl f_169)), (q_170, .inl (cI, 6, .inl f_171)), (q_172, .inl (cI, 6, .inl f_173)), (q_174, .inl (cI, 50, .inl f_175))] := hD
  refine W.widen (k := 18) (n := 6084) (Nat.le_of_ble_eq_true rfl) (Nat.le_of_ble_eq_true rfl) ?_
  refine va_putF (D := D) (ci := 11) (v := .ref q_174) (ty := .array .int) (C := RX12) (T := TX12) (N := 50) hx hb hts inw_X12_init_X12 tyX12 tyX12_ok nmX12 hown hK hP hD hS 0 rfl rfl 32 (by decide) (hts (.fieldLink RX12 225 "EarTableModel" "backLine" "[I") (by decide +kernel)) (fun _ h9 => h9) rfl hin rfl (by decide +kernel) rfl rfl (Nat.le_of_ble_eq_true rfl) dX12_init_159 (fun H locs hP hD hS => ?_)
  have hP : va_P D vwCl [(h0, .inr (11, [.ref q_143, .ref q_145, v2, v3, v4, .int (-1), v6, v7, v8, v9, v10, .ref q_147, .ref q_149, .ref q_151, .ref q_153, .ref q_155, .ref q_156, .ref q_157, .ref q_158, .ref q_160, v20, v21, v22, .ref q_162, .ref q_164, .ref q_166, v26, .int (-1), v28, .ref q_168, .ref q_170, .ref q_172, .ref q_174, v33, v34, v35, v36, v37, v38, v39, v40, v41, v42, v43, v44, v45, v46, v47, v48, v49])), (q_143, .inl (cB, 1620, .inl f_144)), (q_145, .inl (cB, 1600, .inl f_146)), (q_147, .inl (cI, 528, .inl f_148)), (q_149, .inl (cI, 528, .inl f_150)), (q_151, .inl (cI, 528, .inl f_152)), (q_153, .inl (cI, 528, .inl f_154)), (q_155, .inl (cI, 2, .inl (fun _ => 0))), (q_156, .inl (cI, 2, .inl (fun _ => 0))), (q_157, .inl (cI, 2, .inl (fun _ => 0))), (q_158, .inl (cJ, 528, .inr (.inl f_159))), (q_160, .inl (cZ, 60, .inl f_161)), (q_162, .inl (cI, 30, .inl f_163)), (q_164, .inl (cI, 30, .inl f_165)), (q_166, .inl (cI, 30, .inl f_167)), (q_168, .inl (cI, 6, .inl f_169)), (q_170, .inl (cI, 6, .inl f_171)), (q_172, .inl (cI, 6, .inl f_173)), (q_174, .inl (cI, 50, .inl f_175))] H := hP
  have hD : va_D A [(h0, .inr (11, [.ref q_143, .ref q_145, v2, v3, v4, .int (-1), v6, v7, v8, v9, v10, .ref q_147, .ref q_149, .ref q_151, .ref q_153, .ref q_155, .ref q_156, .ref q_157, .ref q_158, .ref q_160, v20, v21, v22, .ref q_162, .ref q_164, .ref q_166, v26, .int (-1), v28, .ref q_168, .ref q_170, .ref q_172, .ref q_174, v33, v34, v35, v36, v37, v38, v39, v40, v41, v42, v43, v44, v45, v46, v47, v48, v49])), (q_143, .inl (cB, 1620, .inl f_144)), (q_145, .inl (cB, 1600, .inl f_146)), (q_147, .inl (cI, 528, .inl f_148)), (q_149, .inl (cI, 528, .inl f_150)), (q_151, .inl (cI, 528, .inl f_152)), (q_153, .inl (cI, 528, .inl f_154)), (q_155, .inl (cI, 2, .inl (fun _ => 0))), (q_156, .inl (cI, 2, .inl (fun _ => 0))), (q_157, .inl (cI, 2, .inl (fun _ => 0))), (q_158, .inl (cJ, 528, .inr (.inl f_159))), (q_160, .inl (cZ, 60, .inl f_161)), (q_162, .inl (cI, 30, .inl f_163)), (q_164, .inl (cI, 30, .inl f_165)), (q_166, .inl (cI, 30, .inl f_167)), (q_168, .inl (cI, 6, .inl f_169)), (q_170, .inl (cI, 6, .inl f_171)), (q_172, .inl (cI, 6, .inl f_173)), (q_174, .inl (cI, 50, .inl f_175))] := hD
  refine lv_aload_n hx hb dX12_init_162 rfl (lv_at hl 0 rfl) ?_
  refine lv_bipush (v := 50) hx hb dX12_init_163 (by decide) ?_
  refine kn_newi (ty := .int) (N' := 50) hx hb (hts (.arrayClass .int) (by decide +kernel)) rfl hK hP hD hS hA 0 rfl (fun _ => rfl) (fun _ => rfl) (by decide) (by decide) (by decide) (Nat.le_of_ble_eq_true rfl) (Nat.le_of_ble_eq_true rfl) dX12_init_165 (fun q_176 f_177 H hP hD hS => ?_)
  have hP : va_P D vwCl [(h0, .inr (11, [.ref q_143, .ref q_145, v2, v3, v4, .int (-1), v6, v7, v8, v9, v10, .ref q_147, .ref q_149, .ref q_151, .ref q_153, .ref q_155, .ref q_156, .ref q_157, .ref q_158, .ref q_160, v20, v21, v22, .ref q_162, .ref q_164, .ref q_166, v26, .int (-1), v28, .ref q_168, .ref q_170, .ref q_172, .ref q_174, v33, v34, v35, v36, v37, v38, v39, v40, v41, v42, v43, v44, v45, v46, v47, v48, v49])), (q_143, .inl (cB, 1620, .inl f_144)), (q_145, .inl (cB, 1600, .inl f_146)), (q_147, .inl (cI, 528, .inl f_148)), (q_149, .inl (cI, 528, .inl f_150)), (q_151, .inl (cI, 528, .inl f_152)), (q_153, .inl (cI, 528, .inl f_154)), (q_155, .inl (cI, 2, .inl (fun _ => 0))), (q_156, .inl (cI, 2, .inl (fun _ => 0))), (q_157, .inl (cI, 2, .inl (fun _ => 0))), (q_158, .inl (cJ, 528, .inr (.inl f_159))), (q_160, .inl (cZ, 60, .inl f_161)), (q_162, .inl (cI, 30, .inl f_163)), (q_164, .inl (cI, 30, .inl f_165)), (q_166, .inl (cI, 30, .inl f_167)), (q_168, .inl (cI, 6, .inl f_169)), (q_170, .inl (cI, 6, .inl f_171)), (q_172, .inl (cI, 6, .inl f_173)), (q_174, .inl (cI, 50, .inl f_175)), (q_176, .inl (cI, 50, .inl f_177))] H := hP
  have hD : va_D A [(h0, .inr (11, [.ref q_143, .ref q_145, v2, v3, v4, .int (-1), v6, v7, v8, v9, v10, .ref q_147, .ref q_149, .ref q_151, .ref q_153, .ref q_155, .ref q_156, .ref q_157, .ref q_158, .ref q_160, v20, v21, v22, .ref q_162, .ref q_164, .ref q_166, v26, .int (-1), v28, .ref q_168, .ref q_170, .ref q_172, .ref q_174, v33, v34, v35, v36, v37, v38, v39, v40, v41, v42, v43, v44, v45, v46, v47, v48, v49])), (q_143, .inl (cB, 1620, .inl f_144)), (q_145, .inl (cB, 1600, .inl f_146)), (q_147, .inl (cI, 528, .inl f_148)), (q_149, .inl (cI, 528, .inl f_150)), (q_151, .inl (cI, 528, .inl f_152)), (q_153, .inl (cI, 528, .inl f_154)), (q_155, .inl (cI, 2, .inl (fun _ => 0))), (q_156, .inl (cI, 2, .inl (fun _ => 0))), (q_157, .inl (cI, 2, .inl (fun _ => 0))), (q_158, .inl (cJ, 528, .inr (.inl f_159))), (q_160, .inl (cZ, 60, .inl f_161)), (q_162, .inl (cI, 30, .inl f_163)), (q_164, .inl (cI, 30, .inl f_165)), (q_166, .inl (cI, 30, .inl f_167)), (q_168, .inl (cI, 6, .inl f_169)), (q_170, .inl (cI, 6, .inl f_171)), (q_172, .inl (cI, 6, .inl f_173)), (q_174, .inl (cI, 50, .inl f_175)), (q_176, .inl (cI, 50, .inl f_177))] := hD
  refine W.widen (k := 19) (n := 6134) (Nat.le_of_ble_eq_true rfl) (Nat.le_of_ble_eq_true rfl) ?_
  refine va_putF (D := D) (ci := 11) (v := .ref q_176) (ty := .array .int) (C := RX12) (T := TX12) (N := 50) hx hb hts inw_X12_init_X12 tyX12 tyX12_ok nmX12 hown hK hP hD hS 0 rfl rfl 33 (by decide) (hts (.fieldLink RX12 228 "EarTableModel" "backColumn" "[I") (by decide +kernel)) (fun _ h9 => h9) rfl hin rfl (by decide +kernel) rfl rfl (Nat.le_of_ble_eq_true rfl) dX12_init_167 (fun H locs hP hD hS => ?_)
  have hP : va_P D vwCl [(h0, .inr (11, [.ref q_143, .ref q_145, v2, v3, v4, .int (-1), v6, v7, v8, v9, v10, .ref q_147, .ref q_149, .ref q_151, .ref q_153, .ref q_155, .ref q_156, .ref q_157, .ref q_158, .ref q_160, v20, v21, v22, .ref q_162, .ref q_164, .ref q_166, v26, .int (-1), v28, .ref q_168, .ref q_170, .ref q_172, .ref q_174, .ref q_176, v34, v35, v36, v37, v38, v39, v40, v41, v42, v43, v44, v45, v46, v47, v48, v49])), (q_143, .inl (cB, 1620, .inl f_144)), (q_145, .inl (cB, 1600, .inl f_146)), (q_147, .inl (cI, 528, .inl f_148)), (q_149, .inl (cI, 528, .inl f_150)), (q_151, .inl (cI, 528, .inl f_152)), (q_153, .inl (cI, 528, .inl f_154)), (q_155, .inl (cI, 2, .inl (fun _ => 0))), (q_156, .inl (cI, 2, .inl (fun _ => 0))), (q_157, .inl (cI, 2, .inl (fun _ => 0))), (q_158, .inl (cJ, 528, .inr (.inl f_159))), (q_160, .inl (cZ, 60, .inl f_161)), (q_162, .inl (cI, 30, .inl f_163)), (q_164, .inl (cI, 30, .inl f_165)), (q_166, .inl (cI, 30, .inl f_167)), (q_168, .inl (cI, 6, .inl f_169)), (q_170, .inl (cI, 6, .inl f_171)), (q_172, .inl (cI, 6, .inl f_173)), (q_174, .inl (cI, 50, .inl f_175)), (q_176, .inl (cI, 50, .inl f_177))] H := hP
  have hD : va_D A [(h0, .inr (11, [.ref q_143, .ref q_145, v2, v3, v4, .int (-1), v6, v7, v8, v9, v10, .ref q_147, .ref q_149, .ref q_151, .ref q_153, .ref q_155, .ref q_156, .ref q_157, .ref q_158, .ref q_160, v20, v21, v22, .ref q_162, .ref q_164, .ref q_166, v26, .int (-1), v28, .ref q_168, .ref q_170, .ref q_172, .ref q_174, .ref q_176, v34, v35, v36, v37, v38, v39, v40, v41, v42, v43, v44, v45, v46, v47, v48, v49])), (q_143, .inl (cB, 1620, .inl f_144)), (q_145, .inl (cB, 1600, .inl f_146)), (q_147, .inl (cI, 528, .inl f_148)), (q_149, .inl (cI, 528, .inl f_150)), (q_151, .inl (cI, 528, .inl f_152)), (q_153, .inl (cI, 528, .inl f_154)), (q_155, .inl (cI, 2, .inl (fun _ => 0))), (q_156, .inl (cI, 2, .inl (fun _ => 0))), (q_157, .inl (cI, 2, .inl (fun _ => 0))), (q_158, .inl (cJ, 528, .inr (.inl f_159))), (q_160, .inl (cZ, 60, .inl f_161)), (q_162, .inl (cI, 30, .inl f_163)), (q_164, .inl (cI, 30, .inl f_165)), (q_166, .inl (cI, 30, .inl f_167)), (q_168, .inl (cI, 6, .inl f_169)), (q_170, .inl (cI, 6, .inl f_171)), (q_172, .inl (cI, 6, .inl f_173)), (q_174, .inl (cI, 50, .inl f_175)), (q_176, .inl (cI, 50, .inl f_177))] := hD
  refine lv_aload_n hx hb dX12_init_170 rfl (lv_at hl 0 rfl) ?_
  refine lv_iconst (v := 5) hx hb dX12_init_171 (by decide) ?_
  refine kn_newi (ty := .int) (N' := 5) hx hb (hts (.arrayClass .int) (by decide +kernel)) rfl hK hP hD hS hA 0 rfl (fun _ => rfl) (fun _ => rfl) (by decide) (by decide) (by decide) (Nat.le_of_ble_eq_true rfl) (Nat.le_of_ble_eq_true rfl) dX12_init_172 (fun q_178 f_179 H hP hD hS => ?_)
  have hP : va_P D vwCl [(h0, .inr (11, [.ref q_143, .ref q_145, v2, v3, v4, .int (-1), v6, v7, v8, v9, v10, .ref q_147, .ref q_149, .ref q_151, .ref q_153, .ref q_155, .ref q_156, .ref q_157, .ref q_158, .ref q_160, v20, v21, v22, .ref q_162, .ref q_164, .ref q_166, v26, .int (-1), v28, .ref q_168, .ref q_170, .ref q_172, .ref q_174, .ref q_176, v34, v35, v36, v37, v38, v39, v40, v41, v42, v43, v44, v45, v46, v47, v48, v49])), (q_143, .inl (cB, 1620, .inl f_144)), (q_145, .inl (cB, 1600, .inl f_146)), (q_147, .inl (cI, 528, .inl f_148)), (q_149, .inl (cI, 528, .inl f_150)), (q_151, .inl (cI, 528, .inl f_152)), (q_153, .inl (cI, 528, .inl f_154)), (q_155, .inl (cI, 2, .inl (fun _ => 0))), (q_156, .inl (cI, 2, .inl (fun _ => 0))), (q_157, .inl (cI, 2, .inl (fun _ => 0))), (q_158, .inl (cJ, 528, .inr (.inl f_159))), (q_160, .inl (cZ, 60, .inl f_161)), (q_162, .inl (cI, 30, .inl f_163)), (q_164, .inl (cI, 30, .inl f_165)), (q_166, .inl (cI, 30, .inl f_167)), (q_168, .inl (cI, 6, .inl f_169)), (q_170, .inl (cI, 6, .inl f_171)), (q_172, .inl (cI, 6, .inl f_173)), (q_174, .inl (cI, 50, .inl f_175)), (q_176, .inl (cI, 50, .inl f_177)), (q_178, .inl (cI, 5, .inl f_179))] H := hP
  have hD : va_D A [(h0, .inr (11, [.ref q_143, .ref q_145, v2, v3, v4, .int (-1), v6, v7, v8, v9, v10, .ref q_147, .ref q_149, .ref q_151, .ref q_153, .ref q_155, .ref q_156, .ref q_157, .ref q_158, .ref q_160, v20, v21, v22, .ref q_162, .ref q_164, .ref q_166, v26, .int (-1), v28, .ref q_168, .ref q_170, .ref q_172, .ref q_174, .ref q_176, v34, v35, v36, v37, v38, v39, v40, v41, v42, v43, v44, v45, v46, v47, v48, v49])), (q_143, .inl (cB, 1620, .inl f_144)), (q_145, .inl (cB, 1600, .inl f_146)), (q_147, .inl (cI, 528, .inl f_148)), (q_149, .inl (cI, 528, .inl f_150)), (q_151, .inl (cI, 528, .inl f_152)), (q_153, .inl (cI, 528, .inl f_154)), (q_155, .inl (cI, 2, .inl (fun _ => 0))), (q_156, .inl (cI, 2, .inl (fun _ => 0))), (q_157, .inl (cI, 2, .inl (fun _ => 0))), (q_158, .inl (cJ, 528, .inr (.inl f_159))), (q_160, .inl (cZ, 60, .inl f_161)), (q_162, .inl (cI, 30, .inl f_163)), (q_164, .inl (cI, 30, .inl f_165)), (q_166, .inl (cI, 30, .inl f_167)), (q_168, .inl (cI, 6, .inl f_169)), (q_170, .inl (cI, 6, .inl f_171)), (q_172, .inl (cI, 6, .inl f_173)), (q_174, .inl (cI, 50, .inl f_175)), (q_176, .inl (cI, 50, .inl f_177)), (q_178, .inl (cI, 5, .inl f_179))] := hD
  refine W.widen (k := 20) (n := 6139) (Nat.le_of_ble_eq_true rfl) (Nat.le_of_ble_eq_true rfl) ?_
  refine va_putF (D := D) (ci := 11) (v := .ref q_178) (ty := .array .int) (C := RX12) (T := TX12) (N := 50) hx hb hts inw_X12_init_X12 tyX12 tyX12_ok nmX12 hown hK hP hD hS 0 rfl rfl 34 (by decide) (hts (.fieldLink RX12 107 "EarTableModel" "markLine" "[I") (by decide +kernel)) (fun _ h9 => h9) rfl hin rfl (by decide +kernel) rfl rfl (Nat.le_of_ble_eq_true rfl) dX12_init_174 (fun H locs hP hD hS => ?_)
  have hP : va_P D vwCl [(h0, .inr (11, [.ref q_143, .ref q_145, v2, v3, v4, .int (-1), v6, v7, v8, v9, v10, .ref q_147, .ref q_149, .ref q_151, .ref q_153, .ref q_155, .ref q_156, .ref q_157, .ref q_158, .ref q_160, v20, v21, v22, .ref q_162, .ref q_164, .ref q_166, v26, .int (-1), v28, .ref q_168, .ref q_170, .ref q_172, .ref q_174, .ref q_176, .ref q_178, v35, v36, v37, v38, v39, v40, v41, v42, v43, v44, v45, v46, v47, v48, v49])), (q_143, .inl (cB, 1620, .inl f_144)), (q_145, .inl (cB, 1600, .inl f_146)), (q_147, .inl (cI, 528, .inl f_148)), (q_149, .inl (cI, 528, .inl f_150)), (q_151, .inl (cI, 528, .inl f_152)), (q_153, .inl (cI, 528, .inl f_154)), (q_155, .inl (cI, 2, .inl (fun _ => 0))), (q_156, .inl (cI, 2, .inl (fun _ => 0))), (q_157, .inl (cI, 2, .inl (fun _ => 0))), (q_158, .inl (cJ, 528, .inr (.inl f_159))), (q_160, .inl (cZ, 60, .inl f_161)), (q_162, .inl (cI, 30, .inl f_163)), (q_164, .inl (cI, 30, .inl f_165)), (q_166, .inl (cI, 30, .inl f_167)), (q_168, .inl (cI, 6, .inl f_169)), (q_170, .inl (cI, 6, .inl f_171)), (q_172, .inl (cI, 6, .inl f_173)), (q_174, .inl (cI, 50, .inl f_175)), (q_176, .inl (cI, 50, .inl f_177)), (q_178, .inl (cI, 5, .inl f_179))] H := hP
  have hD : va_D A [(h0, .inr (11, [.ref q_143, .ref q_145, v2, v3, v4, .int (-1), v6, v7, v8, v9, v10, .ref q_147, .ref q_149, .ref q_151, .ref q_153, .ref q_155, .ref q_156, .ref q_157, .ref q_158, .ref q_160, v20, v21, v22, .ref q_162, .ref q_164, .ref q_166, v26, .int (-1), v28, .ref q_168, .ref q_170, .ref q_172, .ref q_174, .ref q_176, .ref q_178, v35, v36, v37, v38, v39, v40, v41, v42, v43, v44, v45, v46, v47, v48, v49])), (q_143, .inl (cB, 1620, .inl f_144)), (q_145, .inl (cB, 1600, .inl f_146)), (q_147, .inl (cI, 528, .inl f_148)), (q_149, .inl (cI, 528, .inl f_150)), (q_151, .inl (cI, 528, .inl f_152)), (q_153, .inl (cI, 528, .inl f_154)), (q_155, .inl (cI, 2, .inl (fun _ => 0))), (q_156, .inl (cI, 2, .inl (fun _ => 0))), (q_157, .inl (cI, 2, .inl (fun _ => 0))), (q_158, .inl (cJ, 528, .inr (.inl f_159))), (q_160, .inl (cZ, 60, .inl f_161)), (q_162, .inl (cI, 30, .inl f_163)), (q_164, .inl (cI, 30, .inl f_165)), (q_166, .inl (cI, 30, .inl f_167)), (q_168, .inl (cI, 6, .inl f_169)), (q_170, .inl (cI, 6, .inl f_171)), (q_172, .inl (cI, 6, .inl f_173)), (q_174, .inl (cI, 50, .inl f_175)), (q_176, .inl (cI, 50, .inl f_177)), (q_178, .inl (cI, 5, .inl f_179))] := hD
  refine lv_aload_n hx hb dX12_init_177 rfl (lv_at hl 0 rfl) ?_
  refine lv_iconst (v := 5) hx hb dX12_init_178 (by decide) ?_
  refine kn_newi (ty := .int) (N' := 5) hx hb (hts (.arrayClass .int) (by decide +kernel)) rfl hK hP hD hS hA 0 rfl (fun _ => rfl) (fun _ => rfl) (by decide) (by decide) (by decide) (Nat.le_of_ble_eq_true rfl) (Nat.le_of_ble_eq_true rfl) dX12_init_179 (fun q_180 f_181 H hP hD hS => ?_)
  have hP : va_P D vwCl [(h0, .inr (11, [.ref q_143, .ref q_145, v2, v3, v4, .int (-1), v6, v7, v8, v9, v10, .ref q_147, .ref q_149, .ref q_151, .ref q_153, .ref q_155, .ref q_156, .ref q_157, .ref q_158, .ref q_160, v20, v21, v22, .ref q_162, .ref q_164, .ref q_166, v26, .int (-1), v28, .ref q_168, .ref q_170, .ref q_172, .ref q_174, .ref q_176, .ref q_178, v35, v36, v37, v38, v39, v40, v41, v42, v43, v44, v45, v46, v47, v48, v49])), (q_143, .inl (cB, 1620, .inl f_144)), (q_145, .inl (cB, 1600, .inl f_146)), (q_147, .inl (cI, 528, .inl f_148)), (q_149, .inl (cI, 528, .inl f_150)), (q_151, .inl (cI, 528, .inl f_152)), (q_153, .inl (cI, 528, .inl f_154)), (q_155, .inl (cI, 2, .inl (fun _ => 0))), (q_156, .inl (cI, 2, .inl (fun _ => 0))), (q_157, .inl (cI, 2, .inl (fun _ => 0))), (q_158, .inl (cJ, 528, .inr (.inl f_159))), (q_160, .inl (cZ, 60, .inl f_161)), (q_162, .inl (cI, 30, .inl f_163)), (q_164, .inl (cI, 30, .inl f_165)), (q_166, .inl (cI, 30, .inl f_167)), (q_168, .inl (cI, 6, .inl f_169)), (q_170, .inl (cI, 6, .inl f_171)), (q_172, .inl (cI, 6, .inl f_173)), (q_174, .inl (cI, 50, .inl f_175)), (q_176, .inl (cI, 50, .inl f_177)), (q_178, .inl (cI, 5, .inl f_179)), (q_180, .inl (cI, 5, .inl f_181))] H := hP
  have hD : va_D A [(h0, .inr (11, [.ref q_143, .ref q_145, v2, v3, v4, .int (-1), v6, v7, v8, v9, v10, .ref q_147, .ref q_149, .ref q_151, .ref q_153, .ref q_155, .ref q_156, .ref q_157, .ref q_158, .ref q_160, v20, v21, v22, .ref q_162, .ref q_164, .ref q_166, v26, .int (-1), v28, .ref q_168, .ref q_170, .ref q_172, .ref q_174, .ref q_176, .ref q_178, v35, v36, v37, v38, v39, v40, v41, v42, v43, v44, v45, v46, v47, v48, v49])), (q_143, .inl (cB, 1620, .inl f_144)), (q_145, .inl (cB, 1600, .inl f_146)), (q_147, .inl (cI, 528, .inl f_148)), (q_149, .inl (cI, 528, .inl f_150)), (q_151, .inl (cI, 528, .inl f_152)), (q_153, .inl (cI, 528, .inl f_154)), (q_155, .inl (cI, 2, .inl (fun _ => 0))), (q_156, .inl (cI, 2, .inl (fun _ => 0))), (q_157, .inl (cI, 2, .inl (fun _ => 0))), (q_158, .inl (cJ, 528, .inr (.inl f_159))), (q_160, .inl (cZ, 60, .inl f_161)), (q_162, .inl (cI, 30, .inl f_163)), (q_164, .inl (cI, 30, .inl f_165)), (q_166, .inl (cI, 30, .inl f_167)), (q_168, .inl (cI, 6, .inl f_169)), (q_170, .inl (cI, 6, .inl f_171)), (q_172, .inl (cI, 6, .inl f_173)), (q_174, .inl (cI, 50, .inl f_175)), (q_176, .inl (cI, 50, .inl f_177)), (q_178, .inl (cI, 5, .inl f_179)), (q_180, .inl (cI, 5, .inl f_181))] := hD
  refine W.widen (k := 21) (n := 6144) (Nat.le_of_ble_eq_true rfl) (Nat.le_of_ble_eq_true rfl) ?_
  refine va_putF (D := D) (ci := 11) (v := .ref q_180) (ty := .array .int) (C := RX12) (T := TX12) (N := 50) hx hb hts inw_X12_init_X12 tyX12 tyX12_ok nmX12 hown hK hP hD hS 0 rfl rfl 35 (by decide) (hts (.fieldLink RX12 231 "EarTableModel" "markColumn" "[I") (by decide +kernel)) (fun _ h9 => h9) rfl hin rfl (by decide +kernel) rfl rfl (Nat.le_of_ble_eq_true rfl) dX12_init_181 (fun H locs hP hD hS => ?_)
  have hP : va_P D vwCl [(h0, .inr (11, [.ref q_143, .ref q_145, v2, v3, v4, .int (-1), v6, v7, v8, v9, v10, .ref q_147, .ref q_149, .ref q_151, .ref q_153, .ref q_155, .ref q_156, .ref q_157, .ref q_158, .ref q_160, v20, v21, v22, .ref q_162, .ref q_164, .ref q_166, v26, .int (-1), v28, .ref q_168, .ref q_170, .ref q_172, .ref q_174, .ref q_176, .ref q_178, .ref q_180, v36, v37, v38, v39, v40, v41, v42, v43, v44, v45, v46, v47, v48, v49])), (q_143, .inl (cB, 1620, .inl f_144)), (q_145, .inl (cB, 1600, .inl f_146)), (q_147, .inl (cI, 528, .inl f_148)), (q_149, .inl (cI, 528, .inl f_150)), (q_151, .inl (cI, 528, .inl f_152)), (q_153, .inl (cI, 528, .inl f_154)), (q_155, .inl (cI, 2, .inl (fun _ => 0))), (q_156, .inl (cI, 2, .inl (fun _ => 0))), (q_157, .inl (cI, 2, .inl (fun _ => 0))), (q_158, .inl (cJ, 528, .inr (.inl f_159))), (q_160, .inl (cZ, 60, .inl f_161)), (q_162, .inl (cI, 30, .inl f_163)), (q_164, .inl (cI, 30, .inl f_165)), (q_166, .inl (cI, 30, .inl f_167)), (q_168, .inl (cI, 6, .inl f_169)), (q_170, .inl (cI, 6, .inl f_171)), (q_172, .inl (cI, 6, .inl f_173)), (q_174, .inl (cI, 50, .inl f_175)), (q_176, .inl (cI, 50, .inl f_177)), (q_178, .inl (cI, 5, .inl f_179)), (q_180, .inl (cI, 5, .inl f_181))] H := hP
  have hD : va_D A [(h0, .inr (11, [.ref q_143, .ref q_145, v2, v3, v4, .int (-1), v6, v7, v8, v9, v10, .ref q_147, .ref q_149, .ref q_151, .ref q_153, .ref q_155, .ref q_156, .ref q_157, .ref q_158, .ref q_160, v20, v21, v22, .ref q_162, .ref q_164, .ref q_166, v26, .int (-1), v28, .ref q_168, .ref q_170, .ref q_172, .ref q_174, .ref q_176, .ref q_178, .ref q_180, v36, v37, v38, v39, v40, v41, v42, v43, v44, v45, v46, v47, v48, v49])), (q_143, .inl (cB, 1620, .inl f_144)), (q_145, .inl (cB, 1600, .inl f_146)), (q_147, .inl (cI, 528, .inl f_148)), (q_149, .inl (cI, 528, .inl f_150)), (q_151, .inl (cI, 528, .inl f_152)), (q_153, .inl (cI, 528, .inl f_154)), (q_155, .inl (cI, 2, .inl (fun _ => 0))), (q_156, .inl (cI, 2, .inl (fun _ => 0))), (q_157, .inl (cI, 2, .inl (fun _ => 0))), (q_158, .inl (cJ, 528, .inr (.inl f_159))), (q_160, .inl (cZ, 60, .inl f_161)), (q_162, .inl (cI, 30, .inl f_163)), (q_164, .inl (cI, 30, .inl f_165)), (q_166, .inl (cI, 30, .inl f_167)), (q_168, .inl (cI, 6, .inl f_169)), (q_170, .inl (cI, 6, .inl f_171)), (q_172, .inl (cI, 6, .inl f_173)), (q_174, .inl (cI, 50, .inl f_175)), (q_176, .inl (cI, 50, .inl f_177)), (q_178, .inl (cI, 5, .inl f_179)), (q_180, .inl (cI, 5, .inl f_181))] := hD
  refine lv_aload_n hx hb dX12_init_184 rfl (lv_at hl 0 rfl) ?_
  refine lv_iconst (v := (-1)) hx hb dX12_init_185 (by decide) ?_
  refine va_put (D := D) (ci := 11) (v := .int (-1)) (ty := .int) (C := RX12) (T := TX12) (N := 50) hx hb hts inw_X12_init_X12 tyX12 tyX12_ok nmX12 hown hK hP hD hS 0 rfl rfl 37 (by decide) (hts (.fieldLink RX12 104 "EarTableModel" "toldLine" "I") (by decide +kernel)) (fun _ h9 => h9) rfl (by decide +kernel) rfl rfl (Nat.le_of_ble_eq_true rfl) dX12_init_186 (fun H locs hP hD hS => ?_)
  have hP : va_P D vwCl [(h0, .inr (11, [.ref q_143, .ref q_145, v2, v3, v4, .int (-1), v6, v7, v8, v9, v10, .ref q_147, .ref q_149, .ref q_151, .ref q_153, .ref q_155, .ref q_156, .ref q_157, .ref q_158, .ref q_160, v20, v21, v22, .ref q_162, .ref q_164, .ref q_166, v26, .int (-1), v28, .ref q_168, .ref q_170, .ref q_172, .ref q_174, .ref q_176, .ref q_178, .ref q_180, v36, .int (-1), v38, v39, v40, v41, v42, v43, v44, v45, v46, v47, v48, v49])), (q_143, .inl (cB, 1620, .inl f_144)), (q_145, .inl (cB, 1600, .inl f_146)), (q_147, .inl (cI, 528, .inl f_148)), (q_149, .inl (cI, 528, .inl f_150)), (q_151, .inl (cI, 528, .inl f_152)), (q_153, .inl (cI, 528, .inl f_154)), (q_155, .inl (cI, 2, .inl (fun _ => 0))), (q_156, .inl (cI, 2, .inl (fun _ => 0))), (q_157, .inl (cI, 2, .inl (fun _ => 0))), (q_158, .inl (cJ, 528, .inr (.inl f_159))), (q_160, .inl (cZ, 60, .inl f_161)), (q_162, .inl (cI, 30, .inl f_163)), (q_164, .inl (cI, 30, .inl f_165)), (q_166, .inl (cI, 30, .inl f_167)), (q_168, .inl (cI, 6, .inl f_169)), (q_170, .inl (cI, 6, .inl f_171)), (q_172, .inl (cI, 6, .inl f_173)), (q_174, .inl (cI, 50, .inl f_175)), (q_176, .inl (cI, 50, .inl f_177)), (q_178, .inl (cI, 5, .inl f_179)), (q_180, .inl (cI, 5, .inl f_181))] H := hP
  have hD : va_D A [(h0, .inr (11, [.ref q_143, .ref q_145, v2, v3, v4, .int (-1), v6, v7, v8, v9, v10, .ref q_147, .ref q_149, .ref q_151, .ref q_153, .ref q_155, .ref q_156, .ref q_157, .ref q_158, .ref q_160, v20, v21, v22, .ref q_162, .ref q_164, .ref q_166, v26, .int (-1), v28, .ref q_168, .ref q_170, .ref q_172, .ref q_174, .ref q_176, .ref q_178, .ref q_180, v36, .int (-1), v38, v39, v40, v41, v42, v43, v44, v45, v46, v47, v48, v49])), (q_143, .inl (cB, 1620, .inl f_144)), (q_145, .inl (cB, 1600, .inl f_146)), (q_147, .inl (cI, 528, .inl f_148)), (q_149, .inl (cI, 528, .inl f_150)), (q_151, .inl (cI, 528, .inl f_152)), (q_153, .inl (cI, 528, .inl f_154)), (q_155, .inl (cI, 2, .inl (fun _ => 0))), (q_156, .inl (cI, 2, .inl (fun _ => 0))), (q_157, .inl (cI, 2, .inl (fun _ => 0))), (q_158, .inl (cJ, 528, .inr (.inl f_159))), (q_160, .inl (cZ, 60, .inl f_161)), (q_162, .inl (cI, 30, .inl f_163)), (q_164, .inl (cI, 30, .inl f_165)), (q_166, .inl (cI, 30, .inl f_167)), (q_168, .inl (cI, 6, .inl f_169)), (q_170, .inl (cI, 6, .inl f_171)), (q_172, .inl (cI, 6, .inl f_173)), (q_174, .inl (cI, 50, .inl f_175)), (q_176, .inl (cI, 50, .inl f_177)), (q_178, .inl (cI, 5, .inl f_179)), (q_180, .inl (cI, 5, .inl f_181))] := hD
  refine lv_aload_n hx hb dX12_init_189 rfl (lv_at hl 0 rfl) ?_
  refine lv_sipush (v := 240) hx hb dX12_init_190 (by decide) ?_
  refine kn_newi (ty := .int) (N' := 240) hx hb (hts (.arrayClass .int) (by decide +kernel)) rfl hK hP hD hS hA 0 rfl (fun _ => rfl) (fun _ => rfl) (by decide) (by decide) (by decide) (Nat.le_of_ble_eq_true rfl) (Nat.le_of_ble_eq_true rfl) dX12_init_193 (fun q_182 f_183 H hP hD hS => ?_)
  have hP : va_P D vwCl [(h0, .inr (11, [.ref q_143, .ref q_145, v2, v3, v4, .int (-1), v6, v7, v8, v9, v10, .ref q_147, .ref q_149, .ref q_151, .ref q_153, .ref q_155, .ref q_156, .ref q_157, .ref q_158, .ref q_160, v20, v21, v22, .ref q_162, .ref q_164, .ref q_166, v26, .int (-1), v28, .ref q_168, .ref q_170, .ref q_172, .ref q_174, .ref q_176, .ref q_178, .ref q_180, v36, .int (-1), v38, v39, v40, v41, v42, v43, v44, v45, v46, v47, v48, v49])), (q_143, .inl (cB, 1620, .inl f_144)), (q_145, .inl (cB, 1600, .inl f_146)), (q_147, .inl (cI, 528, .inl f_148)), (q_149, .inl (cI, 528, .inl f_150)), (q_151, .inl (cI, 528, .inl f_152)), (q_153, .inl (cI, 528, .inl f_154)), (q_155, .inl (cI, 2, .inl (fun _ => 0))), (q_156, .inl (cI, 2, .inl (fun _ => 0))), (q_157, .inl (cI, 2, .inl (fun _ => 0))), (q_158, .inl (cJ, 528, .inr (.inl f_159))), (q_160, .inl (cZ, 60, .inl f_161)), (q_162, .inl (cI, 30, .inl f_163)), (q_164, .inl (cI, 30, .inl f_165)), (q_166, .inl (cI, 30, .inl f_167)), (q_168, .inl (cI, 6, .inl f_169)), (q_170, .inl (cI, 6, .inl f_171)), (q_172, .inl (cI, 6, .inl f_173)), (q_174, .inl (cI, 50, .inl f_175)), (q_176, .inl (cI, 50, .inl f_177)), (q_178, .inl (cI, 5, .inl f_179)), (q_180, .inl (cI, 5, .inl f_181)), (q_182, .inl (cI, 240, .inl f_183))] H := hP
  have hD : va_D A [(h0, .inr (11, [.ref q_143, .ref q_145, v2, v3, v4, .int (-1), v6, v7, v8, v9, v10, .ref q_147, .ref q_149, .ref q_151, .ref q_153, .ref q_155, .ref q_156, .ref q_157, .ref q_158, .ref q_160, v20, v21, v22, .ref q_162, .ref q_164, .ref q_166, v26, .int (-1), v28, .ref q_168, .ref q_170, .ref q_172, .ref q_174, .ref q_176, .ref q_178, .ref q_180, v36, .int (-1), v38, v39, v40, v41, v42, v43, v44, v45, v46, v47, v48, v49])), (q_143, .inl (cB, 1620, .inl f_144)), (q_145, .inl (cB, 1600, .inl f_146)), (q_147, .inl (cI, 528, .inl f_148)), (q_149, .inl (cI, 528, .inl f_150)), (q_151, .inl (cI, 528, .inl f_152)), (q_153, .inl (cI, 528, .inl f_154)), (q_155, .inl (cI, 2, .inl (fun _ => 0))), (q_156, .inl (cI, 2, .inl (fun _ => 0))), (q_157, .inl (cI, 2, .inl (fun _ => 0))), (q_158, .inl (cJ, 528, .inr (.inl f_159))), (q_160, .inl (cZ, 60, .inl f_161)), (q_162, .inl (cI, 30, .inl f_163)), (q_164, .inl (cI, 30, .inl f_165)), (q_166, .inl (cI, 30, .inl f_167)), (q_168, .inl (cI, 6, .inl f_169)), (q_170, .inl (cI, 6, .inl f_171)), (q_172, .inl (cI, 6, .inl f_173)), (q_174, .inl (cI, 50, .inl f_175)), (q_176, .inl (cI, 50, .inl f_177)), (q_178, .inl (cI, 5, .inl f_179)), (q_180, .inl (cI, 5, .inl f_181)), (q_182, .inl (cI, 240, .inl f_183))] := hD
  refine W.widen (k := 22) (n := 6384) (Nat.le_of_ble_eq_true rfl) (Nat.le_of_ble_eq_true rfl) ?_
  refine va_putF (D := D) (ci := 11) (v := .ref q_182) (ty := .array .int) (C := RX12) (T := TX12) (N := 50) hx hb hts inw_X12_init_X12 tyX12 tyX12_ok nmX12 hown hK hP hD hS 0 rfl rfl 40 (by decide) (hts (.fieldLink RX12 234 "EarTableModel" "needs" "[I") (by decide +kernel)) (fun _ h9 => h9) rfl hin rfl (by decide +kernel) rfl rfl (Nat.le_of_ble_eq_true rfl) dX12_init_195 (fun H locs hP hD hS => ?_)
  have hP : va_P D vwCl [(h0, .inr (11, [.ref q_143, .ref q_145, v2, v3, v4, .int (-1), v6, v7, v8, v9, v10, .ref q_147, .ref q_149, .ref q_151, .ref q_153, .ref q_155, .ref q_156, .ref q_157, .ref q_158, .ref q_160, v20, v21, v22, .ref q_162, .ref q_164, .ref q_166, v26, .int (-1), v28, .ref q_168, .ref q_170, .ref q_172, .ref q_174, .ref q_176, .ref q_178, .ref q_180, v36, .int (-1), v38, v39, .ref q_182, v41, v42, v43, v44, v45, v46, v47, v48, v49])), (q_143, .inl (cB, 1620, .inl f_144)), (q_145, .inl (cB, 1600, .inl f_146)), (q_147, .inl (cI, 528, .inl f_148)), (q_149, .inl (cI, 528, .inl f_150)), (q_151, .inl (cI, 528, .inl f_152)), (q_153, .inl (cI, 528, .inl f_154)), (q_155, .inl (cI, 2, .inl (fun _ => 0))), (q_156, .inl (cI, 2, .inl (fun _ => 0))), (q_157, .inl (cI, 2, .inl (fun _ => 0))), (q_158, .inl (cJ, 528, .inr (.inl f_159))), (q_160, .inl (cZ, 60, .inl f_161)), (q_162, .inl (cI, 30, .inl f_163)), (q_164, .inl (cI, 30, .inl f_165)), (q_166, .inl (cI, 30, .inl f_167)), (q_168, .inl (cI, 6, .inl f_169)), (q_170, .inl (cI, 6, .inl f_171)), (q_172, .inl (cI, 6, .inl f_173)), (q_174, .inl (cI, 50, .inl f_175)), (q_176, .inl (cI, 50, .inl f_177)), (q_178, .inl (cI, 5, .inl f_179)), (q_180, .inl (cI, 5, .inl f_181)), (q_182, .inl (cI, 240, .inl f_183))] H := hP
  have hD : va_D A [(h0, .inr (11, [.ref q_143, .ref q_145, v2, v3, v4, .int (-1), v6, v7, v8, v9, v10, .ref q_147, .ref q_149, .ref q_151, .ref q_153, .ref q_155, .ref q_156, .ref q_157, .ref q_158, .ref q_160, v20, v21, v22, .ref q_162, .ref q_164, .ref q_166, v26, .int (-1), v28, .ref q_168, .ref q_170, .ref q_172, .ref q_174, .ref q_176, .ref q_178, .ref q_180, v36, .int (-1), v38, v39, .ref q_182, v41, v42, v43, v44, v45, v46, v47, v48, v49])), (q_143, .inl (cB, 1620, .inl f_144)), (q_145, .inl (cB, 1600, .inl f_146)), (q_147, .inl (cI, 528, .inl f_148)), (q_149, .inl (cI, 528, .inl f_150)), (q_151, .inl (cI, 528, .inl f_152)), (q_153, .inl (cI, 528, .inl f_154)), (q_155, .inl (cI, 2, .inl (fun _ => 0))), (q_156, .inl (cI, 2, .inl (fun _ => 0))), (q_157, .inl (cI, 2, .inl (fun _ => 0))), (q_158, .inl (cJ, 528, .inr (.inl f_159))), (q_160, .inl (cZ, 60, .inl f_161)), (q_162, .inl (cI, 30, .inl f_163)), (q_164, .inl (cI, 30, .inl f_165)), (q_166, .inl (cI, 30, .inl f_167)), (q_168, .inl (cI, 6, .inl f_169)), (q_170, .inl (cI, 6, .inl f_171)), (q_172, .inl (cI, 6, .inl f_173)), (q_174, .inl (cI, 50, .inl f_175)), (q_176, .inl (cI, 50, .inl f_177)), (q_178, .inl (cI, 5, .inl f_179)), (q_180, .inl (cI, 5, .inl f_181)), (q_182, .inl (cI, 240, .inl f_183))] := hD
  refine lv_aload_n hx hb dX12_init_198 rfl (lv_at hl 0 rfl) ?_
  refine lv_bipush (v := 40) hx hb dX12_init_199 (by decide) ?_
  refine kn_newi (ty := .int) (N' := 40) hx hb (hts (.arrayClass .int) (by decide +kernel)) rfl hK hP hD hS hA 0 rfl (fun _ => rfl) (fun _ => rfl) (by decide) (by decide) (by decide) (Nat.le_of_ble_eq_true rfl) (Nat.le_of_ble_eq_true rfl) dX12_init_201 (fun q_184 f_185 H hP hD hS => ?_)
  have hP : va_P D vwCl [(h0, .inr (11, [.ref q_143, .ref q_145, v2, v3, v4, .int (-1), v6, v7, v8, v9, v10, .ref q_147, .ref q_149, .ref q_151, .ref q_153, .ref q_155, .ref q_156, .ref q_157, .ref q_158, .ref q_160, v20, v21, v22, .ref q_162, .ref q_164, .ref q_166, v26, .int (-1), v28, .ref q_168, .ref q_170, .ref q_172, .ref q_174, .ref q_176, .ref q_178, .ref q_180, v36, .int (-1), v38, v39, .ref q_182, v41, v42, v43, v44, v45, v46, v47, v48, v49])), (q_143, .inl (cB, 1620, .inl f_144)), (q_145, .inl (cB, 1600, .inl f_146)), (q_147, .inl (cI, 528, .inl f_148)), (q_149, .inl (cI, 528, .inl f_150)), (q_151, .inl (cI, 528, .inl f_152)), (q_153, .inl (cI, 528, .inl f_154)), (q_155, .inl (cI, 2, .inl (fun _ => 0))), (q_156, .inl (cI, 2, .inl (fun _ => 0))), (q_157, .inl (cI, 2, .inl (fun _ => 0))), (q_158, .inl (cJ, 528, .inr (.inl f_159))), (q_160, .inl (cZ, 60, .inl f_161)), (q_162, .inl (cI, 30, .inl f_163)), (q_164, .inl (cI, 30, .inl f_165)), (q_166, .inl (cI, 30, .inl f_167)), (q_168, .inl (cI, 6, .inl f_169)), (q_170, .inl (cI, 6, .inl f_171)), (q_172, .inl (cI, 6, .inl f_173)), (q_174, .inl (cI, 50, .inl f_175)), (q_176, .inl (cI, 50, .inl f_177)), (q_178, .inl (cI, 5, .inl f_179)), (q_180, .inl (cI, 5, .inl f_181)), (q_182, .inl (cI, 240, .inl f_183)), (q_184, .inl (cI, 40, .inl f_185))] H := hP
  have hD : va_D A [(h0, .inr (11, [.ref q_143, .ref q_145, v2, v3, v4, .int (-1), v6, v7, v8, v9, v10, .ref q_147, .ref q_149, .ref q_151, .ref q_153, .ref q_155, .ref q_156, .ref q_157, .ref q_158, .ref q_160, v20, v21, v22, .ref q_162, .ref q_164, .ref q_166, v26, .int (-1), v28, .ref q_168, .ref q_170, .ref q_172, .ref q_174, .ref q_176, .ref q_178, .ref q_180, v36, .int (-1), v38, v39, .ref q_182, v41, v42, v43, v44, v45, v46, v47, v48, v49])), (q_143, .inl (cB, 1620, .inl f_144)), (q_145, .inl (cB, 1600, .inl f_146)), (q_147, .inl (cI, 528, .inl f_148)), (q_149, .inl (cI, 528, .inl f_150)), (q_151, .inl (cI, 528, .inl f_152)), (q_153, .inl (cI, 528, .inl f_154)), (q_155, .inl (cI, 2, .inl (fun _ => 0))), (q_156, .inl (cI, 2, .inl (fun _ => 0))), (q_157, .inl (cI, 2, .inl (fun _ => 0))), (q_158, .inl (cJ, 528, .inr (.inl f_159))), (q_160, .inl (cZ, 60, .inl f_161)), (q_162, .inl (cI, 30, .inl f_163)), (q_164, .inl (cI, 30, .inl f_165)), (q_166, .inl (cI, 30, .inl f_167)), (q_168, .inl (cI, 6, .inl f_169)), (q_170, .inl (cI, 6, .inl f_171)), (q_172, .inl (cI, 6, .inl f_173)), (q_174, .inl (cI, 50, .inl f_175)), (q_176, .inl (cI, 50, .inl f_177)), (q_178, .inl (cI, 5, .inl f_179)), (q_180, .inl (cI, 5, .inl f_181)), (q_182, .inl (cI, 240, .inl f_183)), (q_184, .inl (cI, 40, .inl f_185))] := hD
  refine W.widen (k := 23) (n := 6424) (Nat.le_of_ble_eq_true rfl) (Nat.le_of_ble_eq_true rfl) ?_
  refine va_putF (D := D) (ci := 11) (v := .ref q_184) (ty := .array .int) (C := RX12) (T := TX12) (N := 50) hx hb hts inw_X12_init_X12 tyX12 tyX12_ok nmX12 hown hK hP hD hS 0 rfl rfl 41 (by decide) (hts (.fieldLink RX12 237 "EarTableModel" "xSpot" "[I") (by decide +kernel)) (fun _ h9 => h9) rfl hin rfl (by decide +kernel) rfl rfl (Nat.le_of_ble_eq_true rfl) dX12_init_203 (fun H locs hP hD hS => ?_)
  have hP : va_P D vwCl [(h0, .inr (11, [.ref q_143, .ref q_145, v2, v3, v4, .int (-1), v6, v7, v8, v9, v10, .ref q_147, .ref q_149, .ref q_151, .ref q_153, .ref q_155, .ref q_156, .ref q_157, .ref q_158, .ref q_160, v20, v21, v22, .ref q_162, .ref q_164, .ref q_166, v26, .int (-1), v28, .ref q_168, .ref q_170, .ref q_172, .ref q_174, .ref q_176, .ref q_178, .ref q_180, v36, .int (-1), v38, v39, .ref q_182, .ref q_184, v42, v43, v44, v45, v46, v47, v48, v49])), (q_143, .inl (cB, 1620, .inl f_144)), (q_145, .inl (cB, 1600, .inl f_146)), (q_147, .inl (cI, 528, .inl f_148)), (q_149, .inl (cI, 528, .inl f_150)), (q_151, .inl (cI, 528, .inl f_152)), (q_153, .inl (cI, 528, .inl f_154)), (q_155, .inl (cI, 2, .inl (fun _ => 0))), (q_156, .inl (cI, 2, .inl (fun _ => 0))), (q_157, .inl (cI, 2, .inl (fun _ => 0))), (q_158, .inl (cJ, 528, .inr (.inl f_159))), (q_160, .inl (cZ, 60, .inl f_161)), (q_162, .inl (cI, 30, .inl f_163)), (q_164, .inl (cI, 30, .inl f_165)), (q_166, .inl (cI, 30, .inl f_167)), (q_168, .inl (cI, 6, .inl f_169)), (q_170, .inl (cI, 6, .inl f_171)), (q_172, .inl (cI, 6, .inl f_173)), (q_174, .inl (cI, 50, .inl f_175)), (q_176, .inl (cI, 50, .inl f_177)), (q_178, .inl (cI, 5, .inl f_179)), (q_180, .inl (cI, 5, .inl f_181)), (q_182, .inl (cI, 240, .inl f_183)), (q_184, .inl (cI, 40, .inl f_185))] H := hP
  have hD : va_D A [(h0, .inr (11, [.ref q_143, .ref q_145, v2, v3, v4, .int (-1), v6, v7, v8, v9, v10, .ref q_147, .ref q_149, .ref q_151, .ref q_153, .ref q_155, .ref q_156, .ref q_157, .ref q_158, .ref q_160, v20, v21, v22, .ref q_162, .ref q_164, .ref q_166, v26, .int (-1), v28, .ref q_168, .ref q_170, .ref q_172, .ref q_174, .ref q_176, .ref q_178, .ref q_180, v36, .int (-1), v38, v39, .ref q_182, .ref q_184, v42, v43, v44, v45, v46, v47, v48, v49])), (q_143, .inl (cB, 1620, .inl f_144)), (q_145, .inl (cB, 1600, .inl f_146)), (q_147, .inl (cI, 528, .inl f_148)), (q_149, .inl (cI, 528, .inl f_150)), (q_151, .inl (cI, 528, .inl f_152)), (q_153, .inl (cI, 528, .inl f_154)), (q_155, .inl (cI, 2, .inl (fun _ => 0))), (q_156, .inl (cI, 2, .inl (fun _ => 0))), (q_157, .inl (cI, 2, .inl (fun _ => 0))), (q_158, .inl (cJ, 528, .inr (.inl f_159))), (q_160, .inl (cZ, 60, .inl f_161)), (q_162, .inl (cI, 30, .inl f_163)), (q_164, .inl (cI, 30, .inl f_165)), (q_166, .inl (cI, 30, .inl f_167)), (q_168, .inl (cI, 6, .inl f_169)), (q_170, .inl (cI, 6, .inl f_171)), (q_172, .inl (cI, 6, .inl f_173)), (q_174, .inl (cI, 50, .inl f_175)), (q_176, .inl (cI, 50, .inl f_177)), (q_178, .inl (cI, 5, .inl f_179)), (q_180, .inl (cI, 5, .inl f_181)), (q_182, .inl (cI, 240, .inl f_183)), (q_184, .inl (cI, 40, .inl f_185))] := hD
  refine lv_aload_n hx hb dX12_init_206 rfl (lv_at hl 0 rfl) ?_
  refine lv_bipush (v := 40) hx hb dX12_init_207 (by decide) ?_
  refine kn_newi (ty := .int) (N' := 40) hx hb (hts (.arrayClass .int) (by decide +kernel)) rfl hK hP hD hS hA 0 rfl (fun _ => rfl) (fun _ => rfl) (by decide) (by decide) (by decide) (Nat.le_of_ble_eq_true rfl) (Nat.le_of_ble_eq_true rfl) dX12_init_209 (fun q_186 f_187 H hP hD hS => ?_)
  have hP : va_P D vwCl [(h0, .inr (11, [.ref q_143, .ref q_145, v2, v3, v4, .int (-1), v6, v7, v8, v9, v10, .ref q_147, .ref q_149, .ref q_151, .ref q_153, .ref q_155, .ref q_156, .ref q_157, .ref q_158, .ref q_160, v20, v21, v22, .ref q_162, .ref q_164, .ref q_166, v26, .int (-1), v28, .ref q_168, .ref q_170, .ref q_172, .ref q_174, .ref q_176, .ref q_178, .ref q_180, v36, .int (-1), v38, v39, .ref q_182, .ref q_184, v42, v43, v44, v45, v46, v47, v48, v49])), (q_143, .inl (cB, 1620, .inl f_144)), (q_145, .inl (cB, 1600, .inl f_146)), (q_147, .inl (cI, 528, .inl f_148)), (q_149, .inl (cI, 528, .inl f_150)), (q_151, .inl (cI, 528, .inl f_152)), (q_153, .inl (cI, 528, .inl f_154)), (q_155, .inl (cI, 2, .inl (fun _ => 0))), (q_156, .inl (cI, 2, .inl (fun _ => 0))), (q_157, .inl (cI, 2, .inl (fun _ => 0))), (q_158, .inl (cJ, 528, .inr (.inl f_159))), (q_160, .inl (cZ, 60, .inl f_161)), (q_162, .inl (cI, 30, .inl f_163)), (q_164, .inl (cI, 30, .inl f_165)), (q_166, .inl (cI, 30, .inl f_167)), (q_168, .inl (cI, 6, .inl f_169)), (q_170, .inl (cI, 6, .inl f_171)), (q_172, .inl (cI, 6, .inl f_173)), (q_174, .inl (cI, 50, .inl f_175)), (q_176, .inl (cI, 50, .inl f_177)), (q_178, .inl (cI, 5, .inl f_179)), (q_180, .inl (cI, 5, .inl f_181)), (q_182, .inl (cI, 240, .inl f_183)), (q_184, .inl (cI, 40, .inl f_185)), (q_186, .inl (cI, 40, .inl f_187))] H := hP
  have hD : va_D A [(h0, .inr (11, [.ref q_143, .ref q_145, v2, v3, v4, .int (-1), v6, v7, v8, v9, v10, .ref q_147, .ref q_149, .ref q_151, .ref q_153, .ref q_155, .ref q_156, .ref q_157, .ref q_158, .ref q_160, v20, v21, v22, .ref q_162, .ref q_164, .ref q_166, v26, .int (-1), v28, .ref q_168, .ref q_170, .ref q_172, .ref q_174, .ref q_176, .ref q_178, .ref q_180, v36, .int (-1), v38, v39, .ref q_182, .ref q_184, v42, v43, v44, v45, v46, v47, v48, v49])), (q_143, .inl (cB, 1620, .inl f_144)), (q_145, .inl (cB, 1600, .inl f_146)), (q_147, .inl (cI, 528, .inl f_148)), (q_149, .inl (cI, 528, .inl f_150)), (q_151, .inl (cI, 528, .inl f_152)), (q_153, .inl (cI, 528, .inl f_154)), (q_155, .inl (cI, 2, .inl (fun _ => 0))), (q_156, .inl (cI, 2, .inl (fun _ => 0))), (q_157, .inl (cI, 2, .inl (fun _ => 0))), (q_158, .inl (cJ, 528, .inr (.inl f_159))), (q_160, .inl (cZ, 60, .inl f_161)), (q_162, .inl (cI, 30, .inl f_163)), (q_164, .inl (cI, 30, .inl f_165)), (q_166, .inl (cI, 30, .inl f_167)), (q_168, .inl (cI, 6, .inl f_169)), (q_170, .inl (cI, 6, .inl f_171)), (q_172, .inl (cI, 6, .inl f_173)), (q_174, .inl (cI, 50, .inl f_175)), (q_176, .inl (cI, 50, .inl f_177)), (q_178, .inl (cI, 5, .inl f_179)), (q_180, .inl (cI, 5, .inl f_181)), (q_182, .inl (cI, 240, .inl f_183)), (q_184, .inl (cI, 40, .inl f_185)), (q_186, .inl (cI, 40, .inl f_187))] := hD
  refine W.widen (k := 24) (n := 6464) (Nat.le_of_ble_eq_true rfl) (Nat.le_of_ble_eq_true rfl) ?_
  refine va_putF (D := D) (ci := 11) (v := .ref q_186) (ty := .array .int) (C := RX12) (T := TX12) (N := 50) hx hb hts inw_X12_init_X12 tyX12 tyX12_ok nmX12 hown hK hP hD hS 0 rfl rfl 42 (by decide) (hts (.fieldLink RX12 240 "EarTableModel" "xKind" "[I") (by decide +kernel)) (fun _ h9 => h9) rfl hin rfl (by decide +kernel) rfl rfl (Nat.le_of_ble_eq_true rfl) dX12_init_211 (fun H locs hP hD hS => ?_)
  have hP : va_P D vwCl [(h0, .inr (11, [.ref q_143, .ref q_145, v2, v3, v4, .int (-1), v6, v7, v8, v9, v10, .ref q_147, .ref q_149, .ref q_151, .ref q_153, .ref q_155, .ref q_156, .ref q_157, .ref q_158, .ref q_160, v20, v21, v22, .ref q_162, .ref q_164, .ref q_166, v26, .int (-1), v28, .ref q_168, .ref q_170, .ref q_172, .ref q_174, .ref q_176, .ref q_178, .ref q_180, v36, .int (-1), v38, v39, .ref q_182, .ref q_184, .ref q_186, v43, v44, v45, v46, v47, v48, v49])), (q_143, .inl (cB, 1620, .inl f_144)), (q_145, .inl (cB, 1600, .inl f_146)), (q_147, .inl (cI, 528, .inl f_148)), (q_149, .inl (cI, 528, .inl f_150)), (q_151, .inl (cI, 528, .inl f_152)), (q_153, .inl (cI, 528, .inl f_154)), (q_155, .inl (cI, 2, .inl (fun _ => 0))), (q_156, .inl (cI, 2, .inl (fun _ => 0))), (q_157, .inl (cI, 2, .inl (fun _ => 0))), (q_158, .inl (cJ, 528, .inr (.inl f_159))), (q_160, .inl (cZ, 60, .inl f_161)), (q_162, .inl (cI, 30, .inl f_163)), (q_164, .inl (cI, 30, .inl f_165)), (q_166, .inl (cI, 30, .inl f_167)), (q_168, .inl (cI, 6, .inl f_169)), (q_170, .inl (cI, 6, .inl f_171)), (q_172, .inl (cI, 6, .inl f_173)), (q_174, .inl (cI, 50, .inl f_175)), (q_176, .inl (cI, 50, .inl f_177)), (q_178, .inl (cI, 5, .inl f_179)), (q_180, .inl (cI, 5, .inl f_181)), (q_182, .inl (cI, 240, .inl f_183)), (q_184, .inl (cI, 40, .inl f_185)), (q_186, .inl (cI, 40, .inl f_187))] H := hP
  have hD : va_D A [(h0, .inr (11, [.ref q_143, .ref q_145, v2, v3, v4, .int (-1), v6, v7, v8, v9, v10, .ref q_147, .ref q_149, .ref q_151, .ref q_153, .ref q_155, .ref q_156, .ref q_157, .ref q_158, .ref q_160, v20, v21, v22, .ref q_162, .ref q_164, .ref q_166, v26, .int (-1), v28, .ref q_168, .ref q_170, .ref q_172, .ref q_174, .ref q_176, .ref q_178, .ref q_180, v36, .int (-1), v38, v39, .ref q_182, .ref q_184, .ref q_186, v43, v44, v45, v46, v47, v48, v49])), (q_143, .inl (cB, 1620, .inl f_144)), (q_145, .inl (cB, 1600, .inl f_146)), (q_147, .inl (cI, 528, .inl f_148)), (q_149, .inl (cI, 528, .inl f_150)), (q_151, .inl (cI, 528, .inl f_152)), (q_153, .inl (cI, 528, .inl f_154)), (q_155, .inl (cI, 2, .inl (fun _ => 0))), (q_156, .inl (cI, 2, .inl (fun _ => 0))), (q_157, .inl (cI, 2, .inl (fun _ => 0))), (q_158, .inl (cJ, 528, .inr (.inl f_159))), (q_160, .inl (cZ, 60, .inl f_161)), (q_162, .inl (cI, 30, .inl f_163)), (q_164, .inl (cI, 30, .inl f_165)), (q_166, .inl (cI, 30, .inl f_167)), (q_168, .inl (cI, 6, .inl f_169)), (q_170, .inl (cI, 6, .inl f_171)), (q_172, .inl (cI, 6, .inl f_173)), (q_174, .inl (cI, 50, .inl f_175)), (q_176, .inl (cI, 50, .inl f_177)), (q_178, .inl (cI, 5, .inl f_179)), (q_180, .inl (cI, 5, .inl f_181)), (q_182, .inl (cI, 240, .inl f_183)), (q_184, .inl (cI, 40, .inl f_185)), (q_186, .inl (cI, 40, .inl f_187))] := hD
  refine lv_aload_n hx hb dX12_init_214 rfl (lv_at hl 0 rfl) ?_
  refine lv_bipush (v := 40) hx hb dX12_init_215 (by decide) ?_
  refine kn_newi (ty := .int) (N' := 40) hx hb (hts (.arrayClass .int) (by decide +kernel)) rfl hK hP hD hS hA 0 rfl (fun _ => rfl) (fun _ => rfl) (by decide) (by decide) (by decide) (Nat.le_of_ble_eq_true rfl) (Nat.le_of_ble_eq_true rfl) dX12_init_217 (fun q_188 f_189 H hP hD hS => ?_)
  have hP : va_P D vwCl [(h0, .inr (11, [.ref q_143, .ref q_145, v2, v3, v4, .int (-1), v6, v7, v8, v9, v10, .ref q_147, .ref q_149, .ref q_151, .ref q_153, .ref q_155, .ref q_156, .ref q_157, .ref q_158, .ref q_160, v20, v21, v22, .ref q_162, .ref q_164, .ref q_166, v26, .int (-1), v28, .ref q_168, .ref q_170, .ref q_172, .ref q_174, .ref q_176, .ref q_178, .ref q_180, v36, .int (-1), v38, v39, .ref q_182, .ref q_184, .ref q_186, v43, v44, v45, v46, v47, v48, v49])), (q_143, .inl (cB, 1620, .inl f_144)), (q_145, .inl (cB, 1600, .inl f_146)), (q_147, .inl (cI, 528, .inl f_148)), (q_149, .inl (cI, 528, .inl f_150)), (q_151, .inl (cI, 528, .inl f_152)), (q_153, .inl (cI, 528, .inl f_154)), (q_155, .inl (cI, 2, .inl (fun _ => 0))), (q_156, .inl (cI, 2, .inl (fun _ => 0))), (q_157, .inl (cI, 2, .inl (fun _ => 0))), (q_158, .inl (cJ, 528, .inr (.inl f_159))), (q_160, .inl (cZ, 60, .inl f_161)), (q_162, .inl (cI, 30, .inl f_163)), (q_164, .inl (cI, 30, .inl f_165)), (q_166, .inl (cI, 30, .inl f_167)), (q_168, .inl (cI, 6, .inl f_169)), (q_170, .inl (cI, 6, .inl f_171)), (q_172, .inl (cI, 6, .inl f_173)), (q_174, .inl (cI, 50, .inl f_175)), (q_176, .inl (cI, 50, .inl f_177)), (q_178, .inl (cI, 5, .inl f_179)), (q_180, .inl (cI, 5, .inl f_181)), (q_182, .inl (cI, 240, .inl f_183)), (q_184, .inl (cI, 40, .inl f_185)), (q_186, .inl (cI, 40, .inl f_187)), (q_188, .inl (cI, 40, .inl f_189))] H := hP
  have hD : va_D A [(h0, .inr (11, [.ref q_143, .ref q_145, v2, v3, v4, .int (-1), v6, v7, v8, v9, v10, .ref q_147, .ref q_149, .ref q_151, .ref q_153, .ref q_155, .ref q_156, .ref q_157, .ref q_158, .ref q_160, v20, v21, v22, .ref q_162, .ref q_164, .ref q_166, v26, .int (-1), v28, .ref q_168, .ref q_170, .ref q_172, .ref q_174, .ref q_176, .ref q_178, .ref q_180, v36, .int (-1), v38, v39, .ref q_182, .ref q_184, .ref q_186, v43, v44, v45, v46, v47, v48, v49])), (q_143, .inl (cB, 1620, .inl f_144)), (q_145, .inl (cB, 1600, .inl f_146)), (q_147, .inl (cI, 528, .inl f_148)), (q_149, .inl (cI, 528, .inl f_150)), (q_151, .inl (cI, 528, .inl f_152)), (q_153, .inl (cI, 528, .inl f_154)), (q_155, .inl (cI, 2, .inl (fun _ => 0))), (q_156, .inl (cI, 2, .inl (fun _ => 0))), (q_157, .inl (cI, 2, .inl (fun _ => 0))), (q_158, .inl (cJ, 528, .inr (.inl f_159))), (q_160, .inl (cZ, 60, .inl f_161)), (q_162, .inl (cI, 30, .inl f_163)), (q_164, .inl (cI, 30, .inl f_165)), (q_166, .inl (cI, 30, .inl f_167)), (q_168, .inl (cI, 6, .inl f_169)), (q_170, .inl (cI, 6, .inl f_171)), (q_172, .inl (cI, 6, .inl f_173)), (q_174, .inl (cI, 50, .inl f_175)), (q_176, .inl (cI, 50, .inl f_177)), (q_178, .inl (cI, 5, .inl f_179)), (q_180, .inl (cI, 5, .inl f_181)), (q_182, .inl (cI, 240, .inl f_183)), (q_184, .inl (cI, 40, .inl f_185)), (q_186, .inl (cI, 40, .inl f_187)), (q_188, .inl (cI, 40, .inl f_189))] := hD
  refine W.widen (k := 25) (n := 6504) (Nat.le_of_ble_eq_true rfl) (Nat.le_of_ble_eq_true rfl) ?_
  refine va_putF (D := D) (ci := 11) (v := .ref q_188) (ty := .array .int) (C := RX12) (T := TX12) (N := 50) hx hb hts inw_X12_init_X12 tyX12 tyX12_ok nmX12 hown hK hP hD hS 0 rfl rfl 43 (by decide) (hts (.fieldLink RX12 243 "EarTableModel" "xHeld" "[I") (by decide +kernel)) (fun _ h9 => h9) rfl hin rfl (by decide +kernel) rfl rfl (Nat.le_of_ble_eq_true rfl) dX12_init_219 (fun H locs hP hD hS => ?_)
  have hP : va_P D vwCl [(h0, .inr (11, [.ref q_143, .ref q_145, v2, v3, v4, .int (-1), v6, v7, v8, v9, v10, .ref q_147, .ref q_149, .ref q_151, .ref q_153, .ref q_155, .ref q_156, .ref q_157, .ref q_158, .ref q_160, v20, v21, v22, .ref q_162, .ref q_164, .ref q_166, v26, .int (-1), v28, .ref q_168, .ref q_170, .ref q_172, .ref q_174, .ref q_176, .ref q_178, .ref q_180, v36, .int (-1), v38, v39, .ref q_182, .ref q_184, .ref q_186, .ref q_188, v44, v45, v46, v47, v48, v49])), (q_143, .inl (cB, 1620, .inl f_144)), (q_145, .inl (cB, 1600, .inl f_146)), (q_147, .inl (cI, 528, .inl f_148)), (q_149, .inl (cI, 528, .inl f_150)), (q_151, .inl (cI, 528, .inl f_152)), (q_153, .inl (cI, 528, .inl f_154)), (q_155, .inl (cI, 2, .inl (fun _ => 0))), (q_156, .inl (cI, 2, .inl (fun _ => 0))), (q_157, .inl (cI, 2, .inl (fun _ => 0))), (q_158, .inl (cJ, 528, .inr (.inl f_159))), (q_160, .inl (cZ, 60, .inl f_161)), (q_162, .inl (cI, 30, .inl f_163)), (q_164, .inl (cI, 30, .inl f_165)), (q_166, .inl (cI, 30, .inl f_167)), (q_168, .inl (cI, 6, .inl f_169)), (q_170, .inl (cI, 6, .inl f_171)), (q_172, .inl (cI, 6, .inl f_173)), (q_174, .inl (cI, 50, .inl f_175)), (q_176, .inl (cI, 50, .inl f_177)), (q_178, .inl (cI, 5, .inl f_179)), (q_180, .inl (cI, 5, .inl f_181)), (q_182, .inl (cI, 240, .inl f_183)), (q_184, .inl (cI, 40, .inl f_185)), (q_186, .inl (cI, 40, .inl f_187)), (q_188, .inl (cI, 40, .inl f_189))] H := hP
  have hD : va_D A [(h0, .inr (11, [.ref q_143, .ref q_145, v2, v3, v4, .int (-1), v6, v7, v8, v9, v10, .ref q_147, .ref q_149, .ref q_151, .ref q_153, .ref q_155, .ref q_156, .ref q_157, .ref q_158, .ref q_160, v20, v21, v22, .ref q_162, .ref q_164, .ref q_166, v26, .int (-1), v28, .ref q_168, .ref q_170, .ref q_172, .ref q_174, .ref q_176, .ref q_178, .ref q_180, v36, .int (-1), v38, v39, .ref q_182, .ref q_184, .ref q_186, .ref q_188, v44, v45, v46, v47, v48, v49])), (q_143, .inl (cB, 1620, .inl f_144)), (q_145, .inl (cB, 1600, .inl f_146)), (q_147, .inl (cI, 528, .inl f_148)), (q_149, .inl (cI, 528, .inl f_150)), (q_151, .inl (cI, 528, .inl f_152)), (q_153, .inl (cI, 528, .inl f_154)), (q_155, .inl (cI, 2, .inl (fun _ => 0))), (q_156, .inl (cI, 2, .inl (fun _ => 0))), (q_157, .inl (cI, 2, .inl (fun _ => 0))), (q_158, .inl (cJ, 528, .inr (.inl f_159))), (q_160, .inl (cZ, 60, .inl f_161)), (q_162, .inl (cI, 30, .inl f_163)), (q_164, .inl (cI, 30, .inl f_165)), (q_166, .inl (cI, 30, .inl f_167)), (q_168, .inl (cI, 6, .inl f_169)), (q_170, .inl (cI, 6, .inl f_171)), (q_172, .inl (cI, 6, .inl f_173)), (q_174, .inl (cI, 50, .inl f_175)), (q_176, .inl (cI, 50, .inl f_177)), (q_178, .inl (cI, 5, .inl f_179)), (q_180, .inl (cI, 5, .inl f_181)), (q_182, .inl (cI, 240, .inl f_183)), (q_184, .inl (cI, 40, .inl f_185)), (q_186, .inl (cI, 40, .inl f_187)), (q_188, .inl (cI, 40, .inl f_189))] := hD
  refine lv_aload_n hx hb dX12_init_222 rfl (lv_at hl 0 rfl) ?_
  refine lv_bipush (v := 40) hx hb dX12_init_223 (by decide) ?_
  refine kn_newi (ty := .int) (N' := 40) hx hb (hts (.arrayClass .int) (by decide +kernel)) rfl hK hP hD hS hA 0 rfl (fun _ => rfl) (fun _ => rfl) (by decide) (by decide) (by decide) (Nat.le_of_ble_eq_true rfl) (Nat.le_of_ble_eq_true rfl) dX12_init_225 (fun q_190 f_191 H hP hD hS => ?_)
  have hP : va_P D vwCl [(h0, .inr (11, [.ref q_143, .ref q_145, v2, v3, v4, .int (-1), v6, v7, v8, v9, v10, .ref q_147, .ref q_149, .ref q_151, .ref q_153, .ref q_155, .ref q_156, .ref q_157, .ref q_158, .ref q_160, v20, v21, v22, .ref q_162, .ref q_164, .ref q_166, v26, .int (-1), v28, .ref q_168, .ref q_170, .ref q_172, .ref q_174, .ref q_176, .ref q_178, .ref q_180, v36, .int (-1), v38, v39, .ref q_182, .ref q_184, .ref q_186, .ref q_188, v44, v45, v46, v47, v48, v49])), (q_143, .inl (cB, 1620, .inl f_144)), (q_145, .inl (cB, 1600, .inl f_146)), (q_147, .inl (cI, 528, .inl f_148)), (q_149, .inl (cI, 528, .inl f_150)), (q_151, .inl (cI, 528, .inl f_152)), (q_153, .inl (cI, 528, .inl f_154)), (q_155, .inl (cI, 2, .inl (fun _ => 0))), (q_156, .inl (cI, 2, .inl (fun _ => 0))), (q_157, .inl (cI, 2, .inl (fun _ => 0))), (q_158, .inl (cJ, 528, .inr (.inl f_159))), (q_160, .inl (cZ, 60, .inl f_161)), (q_162, .inl (cI, 30, .inl f_163)), (q_164, .inl (cI, 30, .inl f_165)), (q_166, .inl (cI, 30, .inl f_167)), (q_168, .inl (cI, 6, .inl f_169)), (q_170, .inl (cI, 6, .inl f_171)), (q_172, .inl (cI, 6, .inl f_173)), (q_174, .inl (cI, 50, .inl f_175)), (q_176, .inl (cI, 50, .inl f_177)), (q_178, .inl (cI, 5, .inl f_179)), (q_180, .inl (cI, 5, .inl f_181)), (q_182, .inl (cI, 240, .inl f_183)), (q_184, .inl (cI, 40, .inl f_185)), (q_186, .inl (cI, 40, .inl f_187)), (q_188, .inl (cI, 40, .inl f_189)), (q_190, .inl (cI, 40, .inl f_191))] H := hP
  have hD : va_D A [(h0, .inr (11, [.ref q_143, .ref q_145, v2, v3, v4, .int (-1), v6, v7, v8, v9, v10, .ref q_147, .ref q_149, .ref q_151, .ref q_153, .ref q_155, .ref q_156, .ref q_157, .ref q_158, .ref q_160, v20, v21, v22, .ref q_162, .ref q_164, .ref q_166, v26, .int (-1), v28, .ref q_168, .ref q_170, .ref q_172, .ref q_174, .ref q_176, .ref q_178, .ref q_180, v36, .int (-1), v38, v39, .ref q_182, .ref q_184, .ref q_186, .ref q_188, v44, v45, v46, v47, v48, v49])), (q_143, .inl (cB, 1620, .inl f_144)), (q_145, .inl (cB, 1600, .inl f_146)), (q_147, .inl (cI, 528, .inl f_148)), (q_149, .inl (cI, 528, .inl f_150)), (q_151, .inl (cI, 528, .inl f_152)), (q_153, .inl (cI, 528, .inl f_154)), (q_155, .inl (cI, 2, .inl (fun _ => 0))), (q_156, .inl (cI, 2, .inl (fun _ => 0))), (q_157, .inl (cI, 2, .inl (fun _ => 0))), (q_158, .inl (cJ, 528, .inr (.inl f_159))), (q_160, .inl (cZ, 60, .inl f_161)), (q_162, .inl (cI, 30, .inl f_163)), (q_164, .inl (cI, 30, .inl f_165)), (q_166, .inl (cI, 30, .inl f_167)), (q_168, .inl (cI, 6, .inl f_169)), (q_170, .inl (cI, 6, .inl f_171)), (q_172, .inl (cI, 6, .inl f_173)), (q_174, .inl (cI, 50, .inl f_175)), (q_176, .inl (cI, 50, .inl f_177)), (q_178, .inl (cI, 5, .inl f_179)), (q_180, .inl (cI, 5, .inl f_181)), (q_182, .inl (cI, 240, .inl f_183)), (q_184, .inl (cI, 40, .inl f_185)), (q_186, .inl (cI, 40, .inl f_187)), (q_188, .inl (cI, 40, .inl f_189)), (q_190, .inl (cI, 40, .inl f_191))] := hD
  refine W.widen (k := 26) (n := 6544) (Nat.le_of_ble_eq_true rfl) (Nat.le_of_ble_eq_true rfl) ?_
  refine va_putF (D := D) (ci := 11) (v := .ref q_190) (ty := .array .int) (C := RX12) (T := TX12) (N := 50) hx hb hts inw_X12_init_X12 tyX12 tyX12_ok nmX12 hown hK hP hD hS 0 rfl rfl 44 (by decide) (hts (.fieldLink RX12 246 "EarTableModel" "xLine" "[I") (by decide +kernel)) (fun _ h9 => h9) rfl hin rfl (by decide +kernel) rfl rfl (Nat.le_of_ble_eq_true rfl) dX12_init_227 (fun H locs hP hD hS => ?_)
  have hP : va_P D vwCl [(h0, .inr (11, [.ref q_143, .ref q_145, v2, v3, v4, .int (-1), v6, v7, v8, v9, v10, .ref q_147, .ref q_149, .ref q_151, .ref q_153, .ref q_155, .ref q_156, .ref q_157, .ref q_158, .ref q_160, v20, v21, v22, .ref q_162, .ref q_164, .ref q_166, v26, .int (-1), v28, .ref q_168, .ref q_170, .ref q_172, .ref q_174, .ref q_176, .ref q_178, .ref q_180, v36, .int (-1), v38, v39, .ref q_182, .ref q_184, .ref q_186, .ref q_188, .ref q_190, v45, v46, v47, v48, v49])), (q_143, .inl (cB, 1620, .inl f_144)), (q_145, .inl (cB, 1600, .inl f_146)), (q_147, .inl (cI, 528, .inl f_148)), (q_149, .inl (cI, 528, .inl f_150)), (q_151, .inl (cI, 528, .inl f_152)), (q_153, .inl (cI, 528, .inl f_154)), (q_155, .inl (cI, 2, .inl (fun _ => 0))), (q_156, .inl (cI, 2, .inl (fun _ => 0))), (q_157, .inl (cI, 2, .inl (fun _ => 0))), (q_158, .inl (cJ, 528, .inr (.inl f_159))), (q_160, .inl (cZ, 60, .inl f_161)), (q_162, .inl (cI, 30, .inl f_163)), (q_164, .inl (cI, 30, .inl f_165)), (q_166, .inl (cI, 30, .inl f_167)), (q_168, .inl (cI, 6, .inl f_169)), (q_170, .inl (cI, 6, .inl f_171)), (q_172, .inl (cI, 6, .inl f_173)), (q_174, .inl (cI, 50, .inl f_175)), (q_176, .inl (cI, 50, .inl f_177)), (q_178, .inl (cI, 5, .inl f_179)), (q_180, .inl (cI, 5, .inl f_181)), (q_182, .inl (cI, 240, .inl f_183)), (q_184, .inl (cI, 40, .inl f_185)), (q_186, .inl (cI, 40, .inl f_187)), (q_188, .inl (cI, 40, .inl f_189)), (q_190, .inl (cI, 40, .inl f_191))] H := hP
  have hD : va_D A [(h0, .inr (11, [.ref q_143, .ref q_145, v2, v3, v4, .int (-1), v6, v7, v8, v9, v10, .ref q_147, .ref q_149, .ref q_151, .ref q_153, .ref q_155, .ref q_156, .ref q_157, .ref q_158, .ref q_160, v20, v21, v22, .ref q_162, .ref q_164, .ref q_166, v26, .int (-1), v28, .ref q_168, .ref q_170, .ref q_172, .ref q_174, .ref q_176, .ref q_178, .ref q_180, v36, .int (-1), v38, v39, .ref q_182, .ref q_184, .ref q_186, .ref q_188, .ref q_190, v45, v46, v47, v48, v49])), (q_143, .inl (cB, 1620, .inl f_144)), (q_145, .inl (cB, 1600, .inl f_146)), (q_147, .inl (cI, 528, .inl f_148)), (q_149, .inl (cI, 528, .inl f_150)), (q_151, .inl (cI, 528, .inl f_152)), (q_153, .inl (cI, 528, .inl f_154)), (q_155, .inl (cI, 2, .inl (fun _ => 0))), (q_156, .inl (cI, 2, .inl (fun _ => 0))), (q_157, .inl (cI, 2, .inl (fun _ => 0))), (q_158, .inl (cJ, 528, .inr (.inl f_159))), (q_160, .inl (cZ, 60, .inl f_161)), (q_162, .inl (cI, 30, .inl f_163)), (q_164, .inl (cI, 30, .inl f_165)), (q_166, .inl (cI, 30, .inl f_167)), (q_168, .inl (cI, 6, .inl f_169)), (q_170, .inl (cI, 6, .inl f_171)), (q_172, .inl (cI, 6, .inl f_173)), (q_174, .inl (cI, 50, .inl f_175)), (q_176, .inl (cI, 50, .inl f_177)), (q_178, .inl (cI, 5, .inl f_179)), (q_180, .inl (cI, 5, .inl f_181)), (q_182, .inl (cI, 240, .inl f_183)), (q_184, .inl (cI, 40, .inl f_185)), (q_186, .inl (cI, 40, .inl f_187)), (q_188, .inl (cI, 40, .inl f_189)), (q_190, .inl (cI, 40, .inl f_191))] := hD
  refine lv_aload_n hx hb dX12_init_230 rfl (lv_at hl 0 rfl) ?_
  refine lv_bipush (v := 40) hx hb dX12_init_231 (by decide) ?_
  refine kn_newl (ty := .long) (N' := 40) hx hb (hts (.arrayClass .long) (by decide +kernel)) rfl hK hP hD hS hA 1 rfl (fun _ => rfl) (fun _ => rfl) (by decide) (by decide) (by decide) (Nat.le_of_ble_eq_true rfl) (Nat.le_of_ble_eq_true rfl) dX12_init_233 (fun q_192 f_193 H hP hD hS => ?_)
  have hP : va_P D vwCl [(h0, .inr (11, [.ref q_143, .ref q_145, v2, v3, v4, .int (-1), v6, v7, v8, v9, v10, .ref q_147, .ref q_149, .ref q_151, .ref q_153, .ref q_155, .ref q_156, .ref q_157, .ref q_158, .ref q_160, v20, v21, v22, .ref q_162, .ref q_164, .ref q_166, v26, .int (-1), v28, .ref q_168, .ref q_170, .ref q_172, .ref q_174, .ref q_176, .ref q_178, .ref q_180, v36, .int (-1), v38, v39, .ref q_182, .ref q_184, .ref q_186, .ref q_188, .ref q_190, v45, v46, v47, v48, v49])), (q_143, .inl (cB, 1620, .inl f_144)), (q_145, .inl (cB, 1600, .inl f_146)), (q_147, .inl (cI, 528, .inl f_148)), (q_149, .inl (cI, 528, .inl f_150)), (q_151, .inl (cI, 528, .inl f_152)), (q_153, .inl (cI, 528, .inl f_154)), (q_155, .inl (cI, 2, .inl (fun _ => 0))), (q_156, .inl (cI, 2, .inl (fun _ => 0))), (q_157, .inl (cI, 2, .inl (fun _ => 0))), (q_158, .inl (cJ, 528, .inr (.inl f_159))), (q_160, .inl (cZ, 60, .inl f_161)), (q_162, .inl (cI, 30, .inl f_163)), (q_164, .inl (cI, 30, .inl f_165)), (q_166, .inl (cI, 30, .inl f_167)), (q_168, .inl (cI, 6, .inl f_169)), (q_170, .inl (cI, 6, .inl f_171)), (q_172, .inl (cI, 6, .inl f_173)), (q_174, .inl (cI, 50, .inl f_175)), (q_176, .inl (cI, 50, .inl f_177)), (q_178, .inl (cI, 5, .inl f_179)), (q_180, .inl (cI, 5, .inl f_181)), (q_182, .inl (cI, 240, .inl f_183)), (q_184, .inl (cI, 40, .inl f_185)), (q_186, .inl (cI, 40, .inl f_187)), (q_188, .inl (cI, 40, .inl f_189)), (q_190, .inl (cI, 40, .inl f_191)), (q_192, .inl (cJ, 40, .inr (.inl f_193)))] H := hP
  have hD : va_D A [(h0, .inr (11, [.ref q_143, .ref q_145, v2, v3, v4, .int (-1), v6, v7, v8, v9, v10, .ref q_147, .ref q_149, .ref q_151, .ref q_153, .ref q_155, .ref q_156, .ref q_157, .ref q_158, .ref q_160, v20, v21, v22, .ref q_162, .ref q_164, .ref q_166, v26, .int (-1), v28, .ref q_168, .ref q_170, .ref q_172, .ref q_174, .ref q_176, .ref q_178, .ref q_180, v36, .int (-1), v38, v39, .ref q_182, .ref q_184, .ref q_186, .ref q_188, .ref q_190, v45, v46, v47, v48, v49])), (q_143, .inl (cB, 1620, .inl f_144)), (q_145, .inl (cB, 1600, .inl f_146)), (q_147, .inl (cI, 528, .inl f_148)), (q_149, .inl (cI, 528, .inl f_150)), (q_151, .inl (cI, 528, .inl f_152)), (q_153, .inl (cI, 528, .inl f_154)), (q_155, .inl (cI, 2, .inl (fun _ => 0))), (q_156, .inl (cI, 2, .inl (fun _ => 0))), (q_157, .inl (cI, 2, .inl (fun _ => 0))), (q_158, .inl (cJ, 528, .inr (.inl f_159))), (q_160, .inl (cZ, 60, .inl f_161)), (q_162, .inl (cI, 30, .inl f_163)), (q_164, .inl (cI, 30, .inl f_165)), (q_166, .inl (cI, 30, .inl f_167)), (q_168, .inl (cI, 6, .inl f_169)), (q_170, .inl (cI, 6, .inl f_171)), (q_172, .inl (cI, 6, .inl f_173)), (q_174, .inl (cI, 50, .inl f_175)), (q_176, .inl (cI, 50, .inl f_177)), (q_178, .inl (cI, 5, .inl f_179)), (q_180, .inl (cI, 5, .inl f_181)), (q_182, .inl (cI, 240, .inl f_183)), (q_184, .inl (cI, 40, .inl f_185)), (q_186, .inl (cI, 40, .inl f_187)), (q_188, .inl (cI, 40, .inl f_189)), (q_190, .inl (cI, 40, .inl f_191)), (q_192, .inl (cJ, 40, .inr (.inl f_193)))] := hD
  refine W.widen (k := 27) (n := 6584) (Nat.le_of_ble_eq_true rfl) (Nat.le_of_ble_eq_true rfl) ?_
  refine va_putF (D := D) (ci := 11) (v := .ref q_192) (ty := .array .long) (C := RX12) (T := TX12) (N := 50) hx hb hts inw_X12_init_X12 tyX12 tyX12_ok nmX12 hown hK hP hD hS 0 rfl rfl 45 (by decide) (hts (.fieldLink RX12 249 "EarTableModel" "xNamed" "[J") (by decide +kernel)) (fun _ h9 => h9) rfl hin rfl (by decide +kernel) rfl rfl (Nat.le_of_ble_eq_true rfl) dX12_init_235 (fun H locs hP hD hS => ?_)
  have hP : va_P D vwCl [(h0, .inr (11, [.ref q_143, .ref q_145, v2, v3, v4, .int (-1), v6, v7, v8, v9, v10, .ref q_147, .ref q_149, .ref q_151, .ref q_153, .ref q_155, .ref q_156, .ref q_157, .ref q_158, .ref q_160, v20, v21, v22, .ref q_162, .ref q_164, .ref q_166, v26, .int (-1), v28, .ref q_168, .ref q_170, .ref q_172, .ref q_174, .ref q_176, .ref q_178, .ref q_180, v36, .int (-1), v38, v39, .ref q_182, .ref q_184, .ref q_186, .ref q_188, .ref q_190, .ref q_192, v46, v47, v48, v49])), (q_143, .inl (cB, 1620, .inl f_144)), (q_145, .inl (cB, 1600, .inl f_146)), (q_147, .inl (cI, 528, .inl f_148)), (q_149, .inl (cI, 528, .inl f_150)), (q_151, .inl (cI, 528, .inl f_152)), (q_153, .inl (cI, 528, .inl f_154)), (q_155, .inl (cI, 2, .inl (fun _ => 0))), (q_156, .inl (cI, 2, .inl (fun _ => 0))), (q_157, .inl (cI, 2, .inl (fun _ => 0))), (q_158, .inl (cJ, 528, .inr (.inl f_159))), (q_160, .inl (cZ, 60, .inl f_161)), (q_162, .inl (cI, 30, .inl f_163)), (q_164, .inl (cI, 30, .inl f_165)), (q_166, .inl (cI, 30, .inl f_167)), (q_168, .inl (cI, 6, .inl f_169)), (q_170, .inl (cI, 6, .inl f_171)), (q_172, .inl (cI, 6, .inl f_173)), (q_174, .inl (cI, 50, .inl f_175)), (q_176, .inl (cI, 50, .inl f_177)), (q_178, .inl (cI, 5, .inl f_179)), (q_180, .inl (cI, 5, .inl f_181)), (q_182, .inl (cI, 240, .inl f_183)), (q_184, .inl (cI, 40, .inl f_185)), (q_186, .inl (cI, 40, .inl f_187)), (q_188, .inl (cI, 40, .inl f_189)), (q_190, .inl (cI, 40, .inl f_191)), (q_192, .inl (cJ, 40, .inr (.inl f_193)))] H := hP
  have hD : va_D A [(h0, .inr (11, [.ref q_143, .ref q_145, v2, v3, v4, .int (-1), v6, v7, v8, v9, v10, .ref q_147, .ref q_149, .ref q_151, .ref q_153, .ref q_155, .ref q_156, .ref q_157, .ref q_158, .ref q_160, v20, v21, v22, .ref q_162, .ref q_164, .ref q_166, v26, .int (-1), v28, .ref q_168, .ref q_170, .ref q_172, .ref q_174, .ref q_176, .ref q_178, .ref q_180, v36, .int (-1), v38, v39, .ref q_182, .ref q_184, .ref q_186, .ref q_188, .ref q_190, .ref q_192, v46, v47, v48, v49])), (q_143, .inl (cB, 1620, .inl f_144)), (q_145, .inl (cB, 1600, .inl f_146)), (q_147, .inl (cI, 528, .inl f_148)), (q_149, .inl (cI, 528, .inl f_150)), (q_151, .inl (cI, 528, .inl f_152)), (q_153, .inl (cI, 528, .inl f_154)), (q_155, .inl (cI, 2, .inl (fun _ => 0))), (q_156, .inl (cI, 2, .inl (fun _ => 0))), (q_157, .inl (cI, 2, .inl (fun _ => 0))), (q_158, .inl (cJ, 528, .inr (.inl f_159))), (q_160, .inl (cZ, 60, .inl f_161)), (q_162, .inl (cI, 30, .inl f_163)), (q_164, .inl (cI, 30, .inl f_165)), (q_166, .inl (cI, 30, .inl f_167)), (q_168, .inl (cI, 6, .inl f_169)), (q_170, .inl (cI, 6, .inl f_171)), (q_172, .inl (cI, 6, .inl f_173)), (q_174, .inl (cI, 50, .inl f_175)), (q_176, .inl (cI, 50, .inl f_177)), (q_178, .inl (cI, 5, .inl f_179)), (q_180, .inl (cI, 5, .inl f_181)), (q_182, .inl (cI, 240, .inl f_183)), (q_184, .inl (cI, 40, .inl f_185)), (q_186, .inl (cI, 40, .inl f_187)), (q_188, .inl (cI, 40, .inl f_189)), (q_190, .inl (cI, 40, .inl f_191)), (q_192, .inl (cJ, 40, .inr (.inl f_193)))] := hD
  refine lv_iconst (v := 0) hx hb dX12_init_238 (by decide) ?_
  refine lv_istore_n (lv' := [(1, .int 0), (0, .ref h0)]) hx hb dX12_init_239 rfl hl (by decide) rfl (fun ls hl => ?_)
  refine lv_iload_n hx hb dX12_init_240 rfl (lv_at hl 0 rfl) ?_
  refine lv_iconst (v := 5) hx hb dX12_init_241 (by decide) ?_
  refine lv_icmp_ge (tgt := 258) hx hb dX12_init_242 (by decide) (fun c_194 => ?_) (fun c_194 => ?_)
  · skip
    exact absurd c_194 (by decide)
  · skip
    refine lv_aload_n hx hb dX12_init_245 rfl (lv_at hl 1 rfl) ?_
    refine va_get (D := D) (ci := 11) (v := .ref q_178) (C := RX12) (T := TX12) (N := 50) hx hb hts inw_X12_init_X12 hown hK hP 0 rfl rfl 34 (by decide) (hts (.fieldLink RX12 107 "EarTableModel" "markLine" "[I") (by decide +kernel)) (fun _ h9 => h9) rfl dX12_init_246 ?_
    refine lv_iload_n hx hb dX12_init_249 rfl (lv_at hl 0 rfl) ?_
    refine lv_iconst (v := (-1)) hx hb dX12_init_250 (by decide) ?_
    refine kn_iast hx hb hK hP hD hS 20 0 rfl rfl (kn_in (by decide)) dX12_init_251 (fun f_195 H locs hP hD hS => ?_)
    have hP : va_P D vwCl [(h0, .inr (11, [.ref q_143, .ref q_145, v2, v3, v4, .int (-1), v6, v7, v8, v9, v10, .ref q_147, .ref q_149, .ref q_151, .ref q_153, .ref q_155, .ref q_156, .ref q_157, .ref q_158, .ref q_160, v20, v21, v22, .ref q_162, .ref q_164, .ref q_166, v26, .int (-1), v28, .ref q_168, .ref q_170, .ref q_172, .ref q_174, .ref q_176, .ref q_178, .ref q_180, v36, .int (-1), v38, v39, .ref q_182, .ref q_184, .ref q_186, .ref q_188, .ref q_190, .ref q_192, v46, v47, v48, v49])), (q_143, .inl (cB, 1620, .inl f_144)), (q_145, .inl (cB, 1600, .inl f_146)), (q_147, .inl (cI, 528, .inl f_148)), (q_149, .inl (cI, 528, .inl f_150)), (q_151, .inl (cI, 528, .inl f_152)), (q_153, .inl (cI, 528, .inl f_154)), (q_155, .inl (cI, 2, .inl (fun _ => 0))), (q_156, .inl (cI, 2, .inl (fun _ => 0))), (q_157, .inl (cI, 2, .inl (fun _ => 0))), (q_158, .inl (cJ, 528, .inr (.inl f_159))), (q_160, .inl (cZ, 60, .inl f_161)), (q_162, .inl (cI, 30, .inl f_163)), (q_164, .inl (cI, 30, .inl f_165)), (q_166, .inl (cI, 30, .inl f_167)), (q_168, .inl (cI, 6, .inl f_169)), (q_170, .inl (cI, 6, .inl f_171)), (q_172, .inl (cI, 6, .inl f_173)), (q_174, .inl (cI, 50, .inl f_175)), (q_176, .inl (cI, 50, .inl f_177)), (q_178, .inl (cI, 5, .inl f_195)), (q_180, .inl (cI, 5, .inl f_181)), (q_182, .inl (cI, 240, .inl f_183)), (q_184, .inl (cI, 40, .inl f_185)), (q_186, .inl (cI, 40, .inl f_187)), (q_188, .inl (cI, 40, .inl f_189)), (q_190, .inl (cI, 40, .inl f_191)), (q_192, .inl (cJ, 40, .inr (.inl f_193)))] H := hP
    have hD : va_D A [(h0, .inr (11, [.ref q_143, .ref q_145, v2, v3, v4, .int (-1), v6, v7, v8, v9, v10, .ref q_147, .ref q_149, .ref q_151, .ref q_153, .ref q_155, .ref q_156, .ref q_157, .ref q_158, .ref q_160, v20, v21, v22, .ref q_162, .ref q_164, .ref q_166, v26, .int (-1), v28, .ref q_168, .ref q_170, .ref q_172, .ref q_174, .ref q_176, .ref q_178, .ref q_180, v36, .int (-1), v38, v39, .ref q_182, .ref q_184, .ref q_186, .ref q_188, .ref q_190, .ref q_192, v46, v47, v48, v49])), (q_143, .inl (cB, 1620, .inl f_144)), (q_145, .inl (cB, 1600, .inl f_146)), (q_147, .inl (cI, 528, .inl f_148)), (q_149, .inl (cI, 528, .inl f_150)), (q_151, .inl (cI, 528, .inl f_152)), (q_153, .inl (cI, 528, .inl f_154)), (q_155, .inl (cI, 2, .inl (fun _ => 0))), (q_156, .inl (cI, 2, .inl (fun _ => 0))), (q_157, .inl (cI, 2, .inl (fun _ => 0))), (q_158, .inl (cJ, 528, .inr (.inl f_159))), (q_160, .inl (cZ, 60, .inl f_161)), (q_162, .inl (cI, 30, .inl f_163)), (q_164, .inl (cI, 30, .inl f_165)), (q_166, .inl (cI, 30, .inl f_167)), (q_168, .inl (cI, 6, .inl f_169)), (q_170, .inl (cI, 6, .inl f_171)), (q_172, .inl (cI, 6, .inl f_173)), (q_174, .inl (cI, 50, .inl f_175)), (q_176, .inl (cI, 50, .inl f_177)), (q_178, .inl (cI, 5, .inl f_195)), (q_180, .inl (cI, 5, .inl f_181)), (q_182, .inl (cI, 240, .inl f_183)), (q_184, .inl (cI, 40, .inl f_185)), (q_186, .inl (cI, 40, .inl f_187)), (q_188, .inl (cI, 40, .inl f_189)), (q_190, .inl (cI, 40, .inl f_191)), (q_192, .inl (cJ, 40, .inr (.inl f_193)))] := hD
    refine lv_iinc (v := 1) (lv' := [(1, .int 1), (0, .ref h0)]) hx hb dX12_init_252 hl (k := 0) rfl (by decide) (by decide) rfl (fun ls hl => ?_)
    refine lv_goto (tgt := 240) hx hb dX12_init_255 (by decide) ?_
    refine lv_iload_n hx hb dX12_init_240 rfl (lv_at hl 0 rfl) ?_
    refine lv_iconst (v := 5) hx hb dX12_init_241 (by decide) ?_
    refine lv_icmp_ge (tgt := 258) hx hb dX12_init_242 (by decide) (fun c_196 => ?_) (fun c_196 => ?_)
    · skip
      exact absurd c_196 (by decide)
    · skip
      refine lv_aload_n hx hb dX12_init_245 rfl (lv_at hl 1 rfl) ?_
      refine va_get (D := D) (ci := 11) (v := .ref q_178) (C := RX12) (T := TX12) (N := 50) hx hb hts inw_X12_init_X12 hown hK hP 0 rfl rfl 34 (by decide) (hts (.fieldLink RX12 107 "EarTableModel" "markLine" "[I") (by decide +kernel)) (fun _ h9 => h9) rfl dX12_init_246 ?_
      refine lv_iload_n hx hb dX12_init_249 rfl (lv_at hl 0 rfl) ?_
      refine lv_iconst (v := (-1)) hx hb dX12_init_250 (by decide) ?_
      refine kn_iast hx hb hK hP hD hS 20 0 rfl rfl (kn_in (by decide)) dX12_init_251 (fun f_197 H locs hP hD hS => ?_)
      have hP : va_P D vwCl [(h0, .inr (11, [.ref q_143, .ref q_145, v2, v3, v4, .int (-1), v6, v7, v8, v9, v10, .ref q_147, .ref q_149, .ref q_151, .ref q_153, .ref q_155, .ref q_156, .ref q_157, .ref q_158, .ref q_160, v20, v21, v22, .ref q_162, .ref q_164, .ref q_166, v26, .int (-1), v28, .ref q_168, .ref q_170, .ref q_172, .ref q_174, .ref q_176, .ref q_178, .ref q_180, v36, .int (-1), v38, v39, .ref q_182, .ref q_184, .ref q_186, .ref q_188, .ref q_190, .ref q_192, v46, v47, v48, v49])), (q_143, .inl (cB, 1620, .inl f_144)), (q_145, .inl (cB, 1600, .inl f_146)), (q_147, .inl (cI, 528, .inl f_148)), (q_149, .inl (cI, 528, .inl f_150)), (q_151, .inl (cI, 528, .inl f_152)), (q_153, .inl (cI, 528, .inl f_154)), (q_155, .inl (cI, 2, .inl (fun _ => 0))), (q_156, .inl (cI, 2, .inl (fun _ => 0))), (q_157, .inl (cI, 2, .inl (fun _ => 0))), (q_158, .inl (cJ, 528, .inr (.inl f_159))), (q_160, .inl (cZ, 60, .inl f_161)), (q_162, .inl (cI, 30, .inl f_163)), (q_164, .inl (cI, 30, .inl f_165)), (q_166, .inl (cI, 30, .inl f_167)), (q_168, .inl (cI, 6, .inl f_169)), (q_170, .inl (cI, 6, .inl f_171)), (q_172, .inl (cI, 6, .inl f_173)), (q_174, .inl (cI, 50, .inl f_175)), (q_176, .inl (cI, 50, .inl f_177)), (q_178, .inl (cI, 5, .inl f_197)), (q_180, .inl (cI, 5, .inl f_181)), (q_182, .inl (cI, 240, .inl f_183)), (q_184, .inl (cI, 40, .inl f_185)), (q_186, .inl (cI, 40, .inl f_187)), (q_188, .inl (cI, 40, .inl f_189)), (q_190, .inl (cI, 40, .inl f_191)), (q_192, .inl (cJ, 40, .inr (.inl f_193)))] H := hP
      have hD : va_D A [(h0, .inr (11, [.ref q_143, .ref q_145, v2, v3, v4, .int (-1), v6, v7, v8, v9, v10, .ref q_147, .ref q_149, .ref q_151, .ref q_153, .ref q_155, .ref q_156, .ref q_157, .ref q_158, .ref q_160, v20, v21, v22, .ref q_162, .ref q_164, .ref q_166, v26, .int (-1), v28, .ref q_168, .ref q_170, .ref q_172, .ref q_174, .ref q_176, .ref q_178, .ref q_180, v36, .int (-1), v38, v39, .ref q_182, .ref q_184, .ref q_186, .ref q_188, .ref q_190, .ref q_192, v46, v47, v48, v49])), (q_143, .inl (cB, 1620, .inl f_144)), (q_145, .inl (cB, 1600, .inl f_146)), (q_147, .inl (cI, 528, .inl f_148)), (q_149, .inl (cI, 528, .inl f_150)), (q_151, .inl (cI, 528, .inl f_152)), (q_153, .inl (cI, 528, .inl f_154)), (q_155, .inl (cI, 2, .inl (fun _ => 0))), (q_156, .inl (cI, 2, .inl (fun _ => 0))), (q_157, .inl (cI, 2, .inl (fun _ => 0))), (q_158, .inl (cJ, 528, .inr (.inl f_159))), (q_160, .inl (cZ, 60, .inl f_161)), (q_162, .inl (cI, 30, .inl f_163)), (q_164, .inl (cI, 30, .inl f_165)), (q_166, .inl (cI, 30, .inl f_167)), (q_168, .inl (cI, 6, .inl f_169)), (q_170, .inl (cI, 6, .inl f_171)), (q_172, .inl (cI, 6, .inl f_173)), (q_174, .inl (cI, 50, .inl f_175)), (q_176, .inl (cI, 50, .inl f_177)), (q_178, .inl (cI, 5, .inl f_197)), (q_180, .inl (cI, 5, .inl f_181)), (q_182, .inl (cI, 240, .inl f_183)), (q_184, .inl (cI, 40, .inl f_185)), (q_186, .inl (cI, 40, .inl f_187)), (q_188, .inl (cI, 40, .inl f_189)), (q_190, .inl (cI, 40, .inl f_191)), (q_192, .inl (cJ, 40, .inr (.inl f_193)))] := hD
      refine lv_iinc (v := 2) (lv' := [(1, .int 2), (0, .ref h0)]) hx hb dX12_init_252 hl (k := 0) rfl (by decide) (by decide) rfl (fun ls hl => ?_)
      refine lv_goto (tgt := 240) hx hb dX12_init_255 (by decide) ?_
      refine lv_iload_n hx hb dX12_init_240 rfl (lv_at hl 0 rfl) ?_
      refine lv_iconst (v := 5) hx hb dX12_init_241 (by decide) ?_
      refine lv_icmp_ge (tgt := 258) hx hb dX12_init_242 (by decide) (fun c_198 => ?_) (fun c_198 => ?_)
      · skip
        exact absurd c_198 (by decide)
      · skip
        refine lv_aload_n hx hb dX12_init_245 rfl (lv_at hl 1 rfl) ?_
        refine va_get (D := D) (ci := 11) (v := .ref q_178) (C := RX12) (T := TX12) (N := 50) hx hb hts inw_X12_init_X12 hown hK hP 0 rfl rfl 34 (by decide) (hts (.fieldLink RX12 107 "EarTableModel" "markLine" "[I") (by decide +kernel)) (fun _ h9 => h9) rfl dX12_init_246 ?_
        refine lv_iload_n hx hb dX12_init_249 rfl (lv_at hl 0 rfl) ?_
        refine lv_iconst (v := (-1)) hx hb dX12_init_250 (by decide) ?_
        refine kn_iast hx hb hK hP hD hS 20 0 rfl rfl (kn_in (by decide)) dX12_init_251 (fun f_199 H locs hP hD hS => ?_)
        have hP : va_P D vwCl [(h0, .inr (11, [.ref q_143, .ref q_145, v2, v3, v4, .int (-1), v6, v7, v8, v9, v10, .ref q_147, .ref q_149, .ref q_151, .ref q_153, .ref q_155, .ref q_156, .ref q_157, .ref q_158, .ref q_160, v20, v21, v22, .ref q_162, .ref q_164, .ref q_166, v26, .int (-1), v28, .ref q_168, .ref q_170, .ref q_172, .ref q_174, .ref q_176, .ref q_178, .ref q_180, v36, .int (-1), v38, v39, .ref q_182, .ref q_184, .ref q_186, .ref q_188, .ref q_190, .ref q_192, v46, v47, v48, v49])), (q_143, .inl (cB, 1620, .inl f_144)), (q_145, .inl (cB, 1600, .inl f_146)), (q_147, .inl (cI, 528, .inl f_148)), (q_149, .inl (cI, 528, .inl f_150)), (q_151, .inl (cI, 528, .inl f_152)), (q_153, .inl (cI, 528, .inl f_154)), (q_155, .inl (cI, 2, .inl (fun _ => 0))), (q_156, .inl (cI, 2, .inl (fun _ => 0))), (q_157, .inl (cI, 2, .inl (fun _ => 0))), (q_158, .inl (cJ, 528, .inr (.inl f_159))), (q_160, .inl (cZ, 60, .inl f_161)), (q_162, .inl (cI, 30, .inl f_163)), (q_164, .inl (cI, 30, .inl f_165)), (q_166, .inl (cI, 30, .inl f_167)), (q_168, .inl (cI, 6, .inl f_169)), (q_170, .inl (cI, 6, .inl f_171)), (q_172, .inl (cI, 6, .inl f_173)), (q_174, .inl (cI, 50, .inl f_175)), (q_176, .inl (cI, 50, .inl f_177)), (q_178, .inl (cI, 5, .inl f_199)), (q_180, .inl (cI, 5, .inl f_181)), (q_182, .inl (cI, 240, .inl f_183)), (q_184, .inl (cI, 40, .inl f_185)), (q_186, .inl (cI, 40, .inl f_187)), (q_188, .inl (cI, 40, .inl f_189)), (q_190, .inl (cI, 40, .inl f_191)), (q_192, .inl (cJ, 40, .inr (.inl f_193)))] H := hP
        have hD : va_D A [(h0, .inr (11, [.ref q_143, .ref q_145, v2, v3, v4, .int (-1), v6, v7, v8, v9, v10, .ref q_147, .ref q_149, .ref q_151, .ref q_153, .ref q_155, .ref q_156, .ref q_157, .ref q_158, .ref q_160, v20, v21, v22, .ref q_162, .ref q_164, .ref q_166, v26, .int (-1), v28, .ref q_168, .ref q_170, .ref q_172, .ref q_174, .ref q_176, .ref q_178, .ref q_180, v36, .int (-1), v38, v39, .ref q_182, .ref q_184, .ref q_186, .ref q_188, .ref q_190, .ref q_192, v46, v47, v48, v49])), (q_143, .inl (cB, 1620, .inl f_144)), (q_145, .inl (cB, 1600, .inl f_146)), (q_147, .inl (cI, 528, .inl f_148)), (q_149, .inl (cI, 528, .inl f_150)), (q_151, .inl (cI, 528, .inl f_152)), (q_153, .inl (cI, 528, .inl f_154)), (q_155, .inl (cI, 2, .inl (fun _ => 0))), (q_156, .inl (cI, 2, .inl (fun _ => 0))), (q_157, .inl (cI, 2, .inl (fun _ => 0))), (q_158, .inl (cJ, 528, .inr (.inl f_159))), (q_160, .inl (cZ, 60, .inl f_161)), (q_162, .inl (cI, 30, .inl f_163)), (q_164, .inl (cI, 30, .inl f_165)), (q_166, .inl (cI, 30, .inl f_167)), (q_168, .inl (cI, 6, .inl f_169)), (q_170, .inl (cI, 6, .inl f_171)), (q_172, .inl (cI, 6, .inl f_173)), (q_174, .inl (cI, 50, .inl f_175)), (q_176, .inl (cI, 50, .inl f_177)), (q_178, .inl (cI, 5, .inl f_199)), (q_180, .inl (cI, 5, .inl f_181)), (q_182, .inl (cI, 240, .inl f_183)), (q_184, .inl (cI, 40, .inl f_185)), (q_186, .inl (cI, 40, .inl f_187)), (q_188, .inl (cI, 40, .inl f_189)), (q_190, .inl (cI, 40, .inl f_191)), (q_192, .inl (cJ, 40, .inr (.inl f_193)))] := hD
        refine lv_iinc (v := 3) (lv' := [(1, .int 3), (0, .ref h0)]) hx hb dX12_init_252 hl (k := 0) rfl (by decide) (by decide) rfl (fun ls hl => ?_)
        refine lv_goto (tgt := 240) hx hb dX12_init_255 (by decide) ?_
        refine lv_iload_n hx hb dX12_init_240 rfl (lv_at hl 0 rfl) ?_
        refine lv_iconst (v := 5) hx hb dX12_init_241 (by decide) ?_
        refine lv_icmp_ge (tgt := 258) hx hb dX12_init_242 (by decide) (fun c_200 => ?_) (fun c_200 => ?_)
        · skip
          exact absurd c_200 (by decide)
        · skip
          refine lv_aload_n hx hb dX12_init_245 rfl (lv_at hl 1 rfl) ?_
          refine va_get (D := D) (ci := 11) (v := .ref q_178) (C := RX12) (T := TX12) (N := 50) hx hb hts inw_X12_init_X12 hown hK hP 0 rfl rfl 34 (by decide) (hts (.fieldLink RX12 107 "EarTableModel" "markLine" "[I") (by decide +kernel)) (fun _ h9 => h9) rfl dX12_init_246 ?_
          refine lv_iload_n hx hb dX12_init_249 rfl (lv_at hl 0 rfl) ?_
          refine lv_iconst (v := (-1)) hx hb dX12_init_250 (by decide) ?_
          refine kn_iast hx hb hK hP hD hS 20 0 rfl rfl (kn_in (by decide)) dX12_init_251 (fun f_201 H locs hP hD hS => ?_)
          have hP : va_P D vwCl [(h0, .inr (11, [.ref q_143, .ref q_145, v2, v3, v4, .int (-1), v6, v7, v8, v9, v10, .ref q_147, .ref q_149, .ref q_151, .ref q_153, .ref q_155, .ref q_156, .ref q_157, .ref q_158, .ref q_160, v20, v21, v22, .ref q_162, .ref q_164, .ref q_166, v26, .int (-1), v28, .ref q_168, .ref q_170, .ref q_172, .ref q_174, .ref q_176, .ref q_178, .ref q_180, v36, .int (-1), v38, v39, .ref q_182, .ref q_184, .ref q_186, .ref q_188, .ref q_190, .ref q_192, v46, v47, v48, v49])), (q_143, .inl (cB, 1620, .inl f_144)), (q_145, .inl (cB, 1600, .inl f_146)), (q_147, .inl (cI, 528, .inl f_148)), (q_149, .inl (cI, 528, .inl f_150)), (q_151, .inl (cI, 528, .inl f_152)), (q_153, .inl (cI, 528, .inl f_154)), (q_155, .inl (cI, 2, .inl (fun _ => 0))), (q_156, .inl (cI, 2, .inl (fun _ => 0))), (q_157, .inl (cI, 2, .inl (fun _ => 0))), (q_158, .inl (cJ, 528, .inr (.inl f_159))), (q_160, .inl (cZ, 60, .inl f_161)), (q_162, .inl (cI, 30, .inl f_163)), (q_164, .inl (cI, 30, .inl f_165)), (q_166, .inl (cI, 30, .inl f_167)), (q_168, .inl (cI, 6, .inl f_169)), (q_170, .inl (cI, 6, .inl f_171)), (q_172, .inl (cI, 6, .inl f_173)), (q_174, .inl (cI, 50, .inl f_175)), (q_176, .inl (cI, 50, .inl f_177)), (q_178, .inl (cI, 5, .inl f_201)), (q_180, .inl (cI, 5, .inl f_181)), (q_182, .inl (cI, 240, .inl f_183)), (q_184, .inl (cI, 40, .inl f_185)), (q_186, .inl (cI, 40, .inl f_187)), (q_188, .inl (cI, 40, .inl f_189)), (q_190, .inl (cI, 40, .inl f_191)), (q_192, .inl (cJ, 40, .inr (.inl f_193)))] H := hP
          have hD : va_D A [(h0, .inr (11, [.ref q_143, .ref q_145, v2, v3, v4, .int (-1), v6, v7, v8, v9, v10, .ref q_147, .ref q_149, .ref q_151, .ref q_153, .ref q_155, .ref q_156, .ref q_157, .ref q_158, .ref q_160, v20, v21, v22, .ref q_162, .ref q_164, .ref q_166, v26, .int (-1), v28, .ref q_168, .ref q_170, .ref q_172, .ref q_174, .ref q_176, .ref q_178, .ref q_180, v36, .int (-1), v38, v39, .ref q_182, .ref q_184, .ref q_186, .ref q_188, .ref q_190, .ref q_192, v46, v47, v48, v49])), (q_143, .inl (cB, 1620, .inl f_144)), (q_145, .inl (cB, 1600, .inl f_146)), (q_147, .inl (cI, 528, .inl f_148)), (q_149, .inl (cI, 528, .inl f_150)), (q_151, .inl (cI, 528, .inl f_152)), (q_153, .inl (cI, 528, .inl f_154)), (q_155, .inl (cI, 2, .inl (fun _ => 0))), (q_156, .inl (cI, 2, .inl (fun _ => 0))), (q_157, .inl (cI, 2, .inl (fun _ => 0))), (q_158, .inl (cJ, 528, .inr (.inl f_159))), (q_160, .inl (cZ, 60, .inl f_161)), (q_162, .inl (cI, 30, .inl f_163)), (q_164, .inl (cI, 30, .inl f_165)), (q_166, .inl (cI, 30, .inl f_167)), (q_168, .inl (cI, 6, .inl f_169)), (q_170, .inl (cI, 6, .inl f_171)), (q_172, .inl (cI, 6, .inl f_173)), (q_174, .inl (cI, 50, .inl f_175)), (q_176, .inl (cI, 50, .inl f_177)), (q_178, .inl (cI, 5, .inl f_201)), (q_180, .inl (cI, 5, .inl f_181)), (q_182, .inl (cI, 240, .inl f_183)), (q_184, .inl (cI, 40, .inl f_185)), (q_186, .inl (cI, 40, .inl f_187)), (q_188, .inl (cI, 40, .inl f_189)), (q_190, .inl (cI, 40, .inl f_191)), (q_192, .inl (cJ, 40, .inr (.inl f_193)))] := hD
          refine lv_iinc (v := 4) (lv' := [(1, .int 4), (0, .ref h0)]) hx hb dX12_init_252 hl (k := 0) rfl (by decide) (by decide) rfl (fun ls hl => ?_)
          refine lv_goto (tgt := 240) hx hb dX12_init_255 (by decide) ?_
          refine lv_iload_n hx hb dX12_init_240 rfl (lv_at hl 0 rfl) ?_
          refine lv_iconst (v := 5) hx hb dX12_init_241 (by decide) ?_
          refine lv_icmp_ge (tgt := 258) hx hb dX12_init_242 (by decide) (fun c_202 => ?_) (fun c_202 => ?_)
          · skip
            exact absurd c_202 (by decide)
          · skip
            refine lv_aload_n hx hb dX12_init_245 rfl (lv_at hl 1 rfl) ?_
            refine va_get (D := D) (ci := 11) (v := .ref q_178) (C := RX12) (T := TX12) (N := 50) hx hb hts inw_X12_init_X12 hown hK hP 0 rfl rfl 34 (by decide) (hts (.fieldLink RX12 107 "EarTableModel" "markLine" "[I") (by decide +kernel)) (fun _ h9 => h9) rfl dX12_init_246 ?_
            refine lv_iload_n hx hb dX12_init_249 rfl (lv_at hl 0 rfl) ?_
            refine lv_iconst (v := (-1)) hx hb dX12_init_250 (by decide) ?_
            refine kn_iast hx hb hK hP hD hS 20 0 rfl rfl (kn_in (by decide)) dX12_init_251 (fun f_203 H locs hP hD hS => ?_)
            have hP : va_P D vwCl [(h0, .inr (11, [.ref q_143, .ref q_145, v2, v3, v4, .int (-1), v6, v7, v8, v9, v10, .ref q_147, .ref q_149, .ref q_151, .ref q_153, .ref q_155, .ref q_156, .ref q_157, .ref q_158, .ref q_160, v20, v21, v22, .ref q_162, .ref q_164, .ref q_166, v26, .int (-1), v28, .ref q_168, .ref q_170, .ref q_172, .ref q_174, .ref q_176, .ref q_178, .ref q_180, v36, .int (-1), v38, v39, .ref q_182, .ref q_184, .ref q_186, .ref q_188, .ref q_190, .ref q_192, v46, v47, v48, v49])), (q_143, .inl (cB, 1620, .inl f_144)), (q_145, .inl (cB, 1600, .inl f_146)), (q_147, .inl (cI, 528, .inl f_148)), (q_149, .inl (cI, 528, .inl f_150)), (q_151, .inl (cI, 528, .inl f_152)), (q_153, .inl (cI, 528, .inl f_154)), (q_155, .inl (cI, 2, .inl (fun _ => 0))), (q_156, .inl (cI, 2, .inl (fun _ => 0))), (q_157, .inl (cI, 2, .inl (fun _ => 0))), (q_158, .inl (cJ, 528, .inr (.inl f_159))), (q_160, .inl (cZ, 60, .inl f_161)), (q_162, .inl (cI, 30, .inl f_163)), (q_164, .inl (cI, 30, .inl f_165)), (q_166, .inl (cI, 30, .inl f_167)), (q_168, .inl (cI, 6, .inl f_169)), (q_170, .inl (cI, 6, .inl f_171)), (q_172, .inl (cI, 6, .inl f_173)), (q_174, .inl (cI, 50, .inl f_175)), (q_176, .inl (cI, 50, .inl f_177)), (q_178, .inl (cI, 5, .inl f_203)), (q_180, .inl (cI, 5, .inl f_181)), (q_182, .inl (cI, 240, .inl f_183)), (q_184, .inl (cI, 40, .inl f_185)), (q_186, .inl (cI, 40, .inl f_187)), (q_188, .inl (cI, 40, .inl f_189)), (q_190, .inl (cI, 40, .inl f_191)), (q_192, .inl (cJ, 40, .inr (.inl f_193)))] H := hP
            have hD : va_D A [(h0, .inr (11, [.ref q_143, .ref q_145, v2, v3, v4, .int (-1), v6, v7, v8, v9, v10, .ref q_147, .ref q_149, .ref q_151, .ref q_153, .ref q_155, .ref q_156, .ref q_157, .ref q_158, .ref q_160, v20, v21, v22, .ref q_162, .ref q_164, .ref q_166, v26, .int (-1), v28, .ref q_168, .ref q_170, .ref q_172, .ref q_174, .ref q_176, .ref q_178, .ref q_180, v36, .int (-1), v38, v39, .ref q_182, .ref q_184, .ref q_186, .ref q_188, .ref q_190, .ref q_192, v46, v47, v48, v49])), (q_143, .inl (cB, 1620, .inl f_144)), (q_145, .inl (cB, 1600, .inl f_146)), (q_147, .inl (cI, 528, .inl f_148)), (q_149, .inl (cI, 528, .inl f_150)), (q_151, .inl (cI, 528, .inl f_152)), (q_153, .inl (cI, 528, .inl f_154)), (q_155, .inl (cI, 2, .inl (fun _ => 0))), (q_156, .inl (cI, 2, .inl (fun _ => 0))), (q_157, .inl (cI, 2, .inl (fun _ => 0))), (q_158, .inl (cJ, 528, .inr (.inl f_159))), (q_160, .inl (cZ, 60, .inl f_161)), (q_162, .inl (cI, 30, .inl f_163)), (q_164, .inl (cI, 30, .inl f_165)), (q_166, .inl (cI, 30, .inl f_167)), (q_168, .inl (cI, 6, .inl f_169)), (q_170, .inl (cI, 6, .inl f_171)), (q_172, .inl (cI, 6, .inl f_173)), (q_174, .inl (cI, 50, .inl f_175)), (q_176, .inl (cI, 50, .inl f_177)), (q_178, .inl (cI, 5, .inl f_203)), (q_180, .inl (cI, 5, .inl f_181)), (q_182, .inl (cI, 240, .inl f_183)), (q_184, .inl (cI, 40, .inl f_185)), (q_186, .inl (cI, 40, .inl f_187)), (q_188, .inl (cI, 40, .inl f_189)), (q_190, .inl (cI, 40, .inl f_191)), (q_192, .inl (cJ, 40, .inr (.inl f_193)))] := hD
            refine lv_iinc (v := 5) (lv' := [(1, .int 5), (0, .ref h0)]) hx hb dX12_init_252 hl (k := 0) rfl (by decide) (by decide) rfl (fun ls hl => ?_)
            refine lv_goto (tgt := 240) hx hb dX12_init_255 (by decide) ?_
            refine lv_iload_n hx hb dX12_init_240 rfl (lv_at hl 0 rfl) ?_
            refine lv_iconst (v := 5) hx hb dX12_init_241 (by decide) ?_
            refine lv_icmp_ge (tgt := 258) hx hb dX12_init_242 (by decide) (fun c_204 => ?_) (fun c_204 => ?_)
            · skip
              have hP9 := hP.sub (ws' := [(h0, .inr (11, [.ref q_143, .ref q_145, v2, v3, v4, .int (-1), v6, v7, v8, v9, v10, .ref q_147, .ref q_149, .ref q_151, .ref q_153, .ref q_155, .ref q_156, .ref q_157, .ref q_158, .ref q_160, v20, v21, v22, .ref q_162, .ref q_164, .ref q_166, v26, .int (-1), v28, .ref q_168, .ref q_170, .ref q_172, .ref q_174, .ref q_176, .ref q_178, .ref q_180, v36, .int (-1), v38, v39, .ref q_182, .ref q_184, .ref q_186, .ref q_188, .ref q_190, .ref q_192, v46, v47, v48, v49])), (q_143, .inl (cB, 1620, .inl f_144)), (q_145, .inl (cB, 1600, .inl f_146)), (q_147, .inl (cI, 528, .inl f_148)), (q_149, .inl (cI, 528, .inl f_150)), (q_151, .inl (cI, 528, .inl f_152)), (q_153, .inl (cI, 528, .inl f_154)), (q_155, .inl (cI, 2, .inl (fun _ => 0))), (q_156, .inl (cI, 2, .inl (fun _ => 0))), (q_157, .inl (cI, 2, .inl (fun _ => 0))), (q_158, .inl (cJ, 528, .inr (.inl f_159))), (q_160, .inl (cZ, 60, .inl f_161)), (q_162, .inl (cI, 30, .inl f_163)), (q_164, .inl (cI, 30, .inl f_165)), (q_166, .inl (cI, 30, .inl f_167)), (q_168, .inl (cI, 6, .inl f_169)), (q_170, .inl (cI, 6, .inl f_171)), (q_172, .inl (cI, 6, .inl f_173)), (q_174, .inl (cI, 50, .inl f_175)), (q_176, .inl (cI, 50, .inl f_177)), (q_178, .inl (cI, 5, .inl f_203)), (q_180, .inl (cI, 5, .inl f_181)), (q_182, .inl (cI, 240, .inl f_183)), (q_184, .inl (cI, 40, .inl f_185)), (q_186, .inl (cI, 40, .inl f_187)), (q_188, .inl (cI, 40, .inl f_189)), (q_190, .inl (cI, 40, .inl f_191)), (q_192, .inl (cJ, 40, .inr (.inl f_193)))]) [0, 1, 2, 3, 4, 5, 6, 7, 8, 9, 10, 11, 12, 13, 14, 15, 16, 17, 18, 19, 20, 21, 22, 23, 24, 25, 26, 27] rfl
              have hD9 := hD.sub (ws' := [(h0, .inr (11, [.ref q_143, .ref q_145, v2, v3, v4, .int (-1), v6, v7, v8, v9, v10, .ref q_147, .ref q_149, .ref q_151, .ref q_153, .ref q_155, .ref q_156, .ref q_157, .ref q_158, .ref q_160, v20, v21, v22, .ref q_162, .ref q_164, .ref q_166, v26, .int (-1), v28, .ref q_168, .ref q_170, .ref q_172, .ref q_174, .ref q_176, .ref q_178, .ref q_180, v36, .int (-1), v38, v39, .ref q_182, .ref q_184, .ref q_186, .ref q_188, .ref q_190, .ref q_192, v46, v47, v48, v49])), (q_143, .inl (cB, 1620, .inl f_144)), (q_145, .inl (cB, 1600, .inl f_146)), (q_147, .inl (cI, 528, .inl f_148)), (q_149, .inl (cI, 528, .inl f_150)), (q_151, .inl (cI, 528, .inl f_152)), (q_153, .inl (cI, 528, .inl f_154)), (q_155, .inl (cI, 2, .inl (fun _ => 0))), (q_156, .inl (cI, 2, .inl (fun _ => 0))), (q_157, .inl (cI, 2, .inl (fun _ => 0))), (q_158, .inl (cJ, 528, .inr (.inl f_159))), (q_160, .inl (cZ, 60, .inl f_161)), (q_162, .inl (cI, 30, .inl f_163)), (q_164, .inl (cI, 30, .inl f_165)), (q_166, .inl (cI, 30, .inl f_167)), (q_168, .inl (cI, 6, .inl f_169)), (q_170, .inl (cI, 6, .inl f_171)), (q_172, .inl (cI, 6, .inl f_173)), (q_174, .inl (cI, 50, .inl f_175)), (q_176, .inl (cI, 50, .inl f_177)), (q_178, .inl (cI, 5, .inl f_203)), (q_180, .inl (cI, 5, .inl f_181)), (q_182, .inl (cI, 240, .inl f_183)), (q_184, .inl (cI, 40, .inl f_185)), (q_186, .inl (cI, 40, .inl f_187)), (q_188, .inl (cI, 40, .inl f_189)), (q_190, .inl (cI, 40, .inl f_191)), (q_192, .inl (cJ, 40, .inr (.inl f_193)))]) [0, 1, 2, 3, 4, 5, 6, 7, 8, 9, 10, 11, 12, 13, 14, 15, 16, 17, 18, 19, 20, 21, 22, 23, 24, 25, 26, 27] (by decide) rfl
              exact W.vret hx hb hr (fun t ht hW => ⟨⟨(q_143, q_145, q_147, q_149, q_151, q_153, q_155, q_156, q_157, q_158, q_160, q_162, q_164, q_166, q_168, q_170, q_172, q_174, q_176, q_178, q_180, q_182, q_184, q_186, q_188, q_190, q_192, f_144, f_146, f_148, f_150, f_152, f_154, f_159, f_161, f_163, f_165, f_167, f_169, f_171, f_173, f_175, f_177, f_203, f_181, f_183, f_185, f_187, f_189, f_191, f_193), rfl, trivial, by rw [ht]; exact hP9, hD9⟩, hS.F ht⟩) hS.2.2 dX12_init_258
            · skip
              exact absurd rfl c_204
def o_X7_append : List Cond := [.fieldLink RX7 15 "EarTable$Tape" "length" "I", .fieldLink RX7 9 "EarTable$Tape" "bytes" "[I"]
def u_X7_append : List Cond := .code yX7_append cX7_append 3 none :: (o_X7_append ++ (wsX70 ++ ([] : List Cond)))
theorem inw_X7_append_X7 : ∀ w ∈ wsX70, w ∈ u_X7_append := fun w h => List.mem_cons_of_mem _ (List.mem_append_right _ (List.mem_append_left _ h))
set_option maxRecDepth 20000 in
theorem good_X7_append : u_X7_append.all goodWord = true := by decide +kernel
set_option maxRecDepth 20000 in
theorem in_X7_append : ∀ w ∈ u_X7_append, w ∈ lw_tbl := ma_cons inc_X7_append (ma_app (ma_pos o_X7_append [96, 94] (by decide +kernel)) (ma_app inb_X7 ma_nil))
set_option maxHeartbeats 4000000 in
set_option maxRecDepth 100000 in
theorem c_X7_append (l : Launch) (D : va_G) (cI cJ cZ cB : ClassId) (sz : Nat) (h0 : Nat) (h1 : Nat) (f0 : Nat → Int32) (p1 : Int32) : Met l yX7_append u_X7_append ({ frames := 0, cells := 0, slots := 0, locals := 0 }) (va_Pc [.ref h0, .int p1] (kPre D cI cJ cZ cB [(h0, .inr (6, [.ref h1, .int 0])), (h1, .inl (cI, 1600, .inl f0))] sz)) (va_Qv (fun (_ : (Nat → Int32)) => True) (kB D (fun (u : (Nat → Int32)) => [(h0, .inr (6, [.ref h1, .int 4])), (h1, .inl (cI, 1600, .inl u))]) (va_A [(h0, .inr (6, [.ref h1, .int 0])), (h1, .inl (cI, 1600, .inl f0))] sz)) (va_A [(h0, .inr (6, [.ref h1, .int 0])), (h1, .inl (cI, 1600, .inl f0))] sz)) 0 0 (va_A [(h0, .inr (6, [.ref h1, .int 0])), (h1, .inl (cI, 1600, .inl f0))] sz) := by
  refine Met.ofW (cc := cX7_append) (maxL := 3) (ret := none) (by decide) rfl ?_
  intro p e s m args below meth c s₁ B hml hv
  obtain ⟨rfl, hsz, hP, hK, hN, hD0⟩ := hv
  have hx := B.exec
  have hb := B.bytes
  have hr := B.returns
  have hts := atoms_spec (ws := u_X7_append) B.pre
  have hown : s.vm.findClass RX7 = some m.cls := findClass_of_methodNamed B.named
  have hlocks := B.notSynchronized
  subst hsz
  have hD := hD0.self (sz := s.heap.size)
  generalize hAe : va_A [(h0, .inr (6, [.ref h1, .int 0])), (h1, .inl (cI, 1600, .inl f0))] s.heap.size = A at hD ⊢
  have hA : ∀ q : Nat, s.heap.size ≤ q → A q := fun q h => by rw [← hAe]; exact Or.inr h
  have hS : va_S A s.heap s.heap [] := va_S.rf
  have hP : va_P D vwCl [(h0, .inr (6, [.ref h1, .int 0])), (h1, .inl (cI, 1600, .inl f0))] s.heap := hP
  have hl := lv_entry ([.ref h0, .int p1]) (n := 3) (Nat.le_of_ble_eq_true rfl)
  rw [lg_entry_eq]
  generalize (lg_sl ([.ref h0, .int p1]) ++ List.replicate (3 - (lg_sl ([.ref h0, .int p1])).length) Slot.unset).toArray = ls at hl ⊢
  have hl : lv_has ls 3 [(0, .ref h0), (1, .int p1)] := hl
  obtain ⟨H, hHe⟩ : ∃ H, s.heap = H := ⟨_, rfl⟩
  have hP : va_P D vwCl [(h0, .inr (6, [.ref h1, .int 0])), (h1, .inl (cI, 1600, .inl f0))] H := by rw [← hHe]; exact hP
  have hS : va_S A s.heap H [] := by rw [← hHe]; exact hS
  refine kn_heap hHe ?_
  refine lv_bipush (v := 24) hx hb dX7_append_0 (by decide) ?_
  refine lv_istore_n (lv' := [(2, .int 24), (0, .ref h0), (1, .int p1)]) hx hb dX7_append_2 rfl hl (by decide) rfl (fun ls hl => ?_)
  refine lv_iload_n hx hb dX7_append_3 rfl (lv_at hl 0 rfl) ?_
  refine lv_if_lt (tgt := 49) hx hb dX7_append_4 (by decide) (fun c_258 => ?_) (fun c_258 => ?_)
  · skip
    exact absurd c_258 (by decide)
  · skip
    refine lv_aload_n hx hb dX7_append_7 rfl (lv_at hl 1 rfl) ?_
    refine va_get (D := D) (ci := 6) (v := .int 0) (C := RX7) (T := TX7) (N := 2) hx hb hts inw_X7_append_X7 hown hK hP 0 rfl rfl 1 (by decide) (hts (.fieldLink RX7 15 "EarTable$Tape" "length" "I") (by decide +kernel)) (fun _ h9 => h9) rfl dX7_append_8 ?_
    refine lv_sipush (v := 1600) hx hb dX7_append_11 (by decide) ?_
    refine lv_icmp_ge (tgt := 49) hx hb dX7_append_14 (by decide) (fun c_259 => ?_) (fun c_259 => ?_)
    · skip
      exact absurd c_259 (by decide)
    · skip
      refine lv_aload_n hx hb dX7_append_17 rfl (lv_at hl 1 rfl) ?_
      refine va_get (D := D) (ci := 6) (v := .ref h1) (C := RX7) (T := TX7) (N := 2) hx hb hts inw_X7_append_X7 hown hK hP 0 rfl rfl 0 (by decide) (hts (.fieldLink RX7 9 "EarTable$Tape" "bytes" "[I") (by decide +kernel)) (fun _ h9 => h9) rfl dX7_append_18 ?_
      refine lv_aload_n hx hb dX7_append_21 rfl (lv_at hl 1 rfl) ?_
      refine va_get (D := D) (ci := 6) (v := .int 0) (C := RX7) (T := TX7) (N := 2) hx hb hts inw_X7_append_X7 hown hK hP 0 rfl rfl 1 (by decide) (hts (.fieldLink RX7 15 "EarTable$Tape" "length" "I") (by decide +kernel)) (fun _ h9 => h9) rfl dX7_append_22 ?_
      refine lv_iload_n hx hb dX7_append_25 rfl (lv_at hl 2 rfl) ?_
      refine lv_iload_n hx hb dX7_append_26 rfl (lv_at hl 0 rfl) ?_
      refine lv_iushr hx hb dX7_append_27 rfl ?_
      refine lv_topi (fun z_260 _ => ?_)
      refine lv_sipush (v := 255) hx hb dX7_append_28 (by decide) ?_
      refine lv_iand hx hb dX7_append_31 ?_
      refine lv_topi (fun z_261 _ => ?_)
      refine kn_iast hx hb hK hP hD hS 1 0 rfl rfl (kn_in (by decide)) dX7_append_32 (fun f_262 H locs hP hD hS => ?_)
      have hP : va_P D vwCl [(h0, .inr (6, [.ref h1, .int 0])), (h1, .inl (cI, 1600, .inl f_262))] H := hP
      have hD : va_D A [(h0, .inr (6, [.ref h1, .int 0])), (h1, .inl (cI, 1600, .inl f_262))] := hD
      refine lv_aload_n hx hb dX7_append_33 rfl (lv_at hl 1 rfl) ?_
      refine lv_dup hx hb dX7_append_34 rfl ?_
      refine va_get (D := D) (ci := 6) (v := .int 0) (C := RX7) (T := TX7) (N := 2) hx hb hts inw_X7_append_X7 hown hK hP 0 rfl rfl 1 (by decide) (hts (.fieldLink RX7 15 "EarTable$Tape" "length" "I") (by decide +kernel)) (fun _ h9 => h9) rfl dX7_append_35 ?_
      refine lv_iconst (v := 1) hx hb dX7_append_38 (by decide) ?_
      refine lv_iadd hx hb dX7_append_39 ?_
      refine kn_top (y := 1) (by decide) ?_
      refine va_put (D := D) (ci := 6) (v := .int 1) (ty := .int) (C := RX7) (T := TX7) (N := 2) hx hb hts inw_X7_append_X7 tyX7 tyX7_ok nmX7 hown hK hP hD hS 0 rfl rfl 1 (by decide) (hts (.fieldLink RX7 15 "EarTable$Tape" "length" "I") (by decide +kernel)) (fun _ h9 => h9) rfl (by decide +kernel) rfl rfl (Nat.le_of_ble_eq_true rfl) dX7_append_40 (fun H locs hP hD hS => ?_)
      have hP : va_P D vwCl [(h0, .inr (6, [.ref h1, .int 1])), (h1, .inl (cI, 1600, .inl f_262))] H := hP
      have hD : va_D A [(h0, .inr (6, [.ref h1, .int 1])), (h1, .inl (cI, 1600, .inl f_262))] := hD
      refine lv_iinc (v := 16) (lv' := [(2, .int 16), (0, .ref h0), (1, .int p1)]) hx hb dX7_append_43 hl (k := 0) rfl (by decide) (by decide) rfl (fun ls hl => ?_)
      refine lv_goto (tgt := 3) hx hb dX7_append_46 (by decide) ?_
      refine lv_iload_n hx hb dX7_append_3 rfl (lv_at hl 0 rfl) ?_
      refine lv_if_lt (tgt := 49) hx hb dX7_append_4 (by decide) (fun c_263 => ?_) (fun c_263 => ?_)
      · skip
        exact absurd c_263 (by decide)
      · skip
        refine lv_aload_n hx hb dX7_append_7 rfl (lv_at hl 1 rfl) ?_
        refine va_get (D := D) (ci := 6) (v := .int 1) (C := RX7) (T := TX7) (N := 2) hx hb hts inw_X7_append_X7 hown hK hP 0 rfl rfl 1 (by decide) (hts (.fieldLink RX7 15 "EarTable$Tape" "length" "I") (by decide +kernel)) (fun _ h9 => h9) rfl dX7_append_8 ?_
        refine lv_sipush (v := 1600) hx hb dX7_append_11 (by decide) ?_
        refine lv_icmp_ge (tgt := 49) hx hb dX7_append_14 (by decide) (fun c_264 => ?_) (fun c_264 => ?_)
        · skip
          exact absurd c_264 (by decide)
        · skip
          refine lv_aload_n hx hb dX7_append_17 rfl (lv_at hl 1 rfl) ?_
          refine va_get (D := D) (ci := 6) (v := .ref h1) (C := RX7) (T := TX7) (N := 2) hx hb hts inw_X7_append_X7 hown hK hP 0 rfl rfl 0 (by decide) (hts (.fieldLink RX7 9 "EarTable$Tape" "bytes" "[I") (by decide +kernel)) (fun _ h9 => h9) rfl dX7_append_18 ?_
          refine lv_aload_n hx hb dX7_append_21 rfl (lv_at hl 1 rfl) ?_
          refine va_get (D := D) (ci := 6) (v := .int 1) (C := RX7) (T := TX7) (N := 2) hx hb hts inw_X7_append_X7 hown hK hP 0 rfl rfl 1 (by decide) (hts (.fieldLink RX7 15 "EarTable$Tape" "length" "I") (by decide +kernel)) (fun _ h9 => h9) rfl dX7_append_22 ?_
          refine lv_iload_n hx hb dX7_append_25 rfl (lv_at hl 2 rfl) ?_
          refine lv_iload_n hx hb dX7_append_26 rfl (lv_at hl 0 rfl) ?_
          refine lv_iushr hx hb dX7_append_27 rfl ?_
          refine lv_topi (fun z_265 _ => ?_)
          refine lv_sipush (v := 255) hx hb dX7_append_28 (by decide) ?_
          refine lv_iand hx hb dX7_append_31 ?_
          refine lv_topi (fun z_266 _ => ?_)
          refine kn_iast hx hb hK hP hD hS 1 0 rfl rfl (kn_in (by decide)) dX7_append_32 (fun f_267 H locs hP hD hS => ?_)
          have hP : va_P D vwCl [(h0, .inr (6, [.ref h1, .int 1])), (h1, .inl (cI, 1600, .inl f_267))] H := hP
          have hD : va_D A [(h0, .inr (6, [.ref h1, .int 1])), (h1, .inl (cI, 1600, .inl f_267))] := hD
          refine lv_aload_n hx hb dX7_append_33 rfl (lv_at hl 1 rfl) ?_
          refine lv_dup hx hb dX7_append_34 rfl ?_
          refine va_get (D := D) (ci := 6) (v := .int 1) (C := RX7) (T := TX7) (N := 2) hx hb hts inw_X7_append_X7 hown hK hP 0 rfl rfl 1 (by decide) (hts (.fieldLink RX7 15 "EarTable$Tape" "length" "I") (by decide +kernel)) (fun _ h9 => h9) rfl dX7_append_35 ?_
          refine lv_iconst (v := 1) hx hb dX7_append_38 (by decide) ?_
          refine lv_iadd hx hb dX7_append_39 ?_
          refine kn_top (y := 2) (by decide) ?_
          refine va_put (D := D) (ci := 6) (v := .int 2) (ty := .int) (C := RX7) (T := TX7) (N := 2) hx hb hts inw_X7_append_X7 tyX7 tyX7_ok nmX7 hown hK hP hD hS 0 rfl rfl 1 (by decide) (hts (.fieldLink RX7 15 "EarTable$Tape" "length" "I") (by decide +kernel)) (fun _ h9 => h9) rfl (by decide +kernel) rfl rfl (Nat.le_of_ble_eq_true rfl) dX7_append_40 (fun H locs hP hD hS => ?_)
          have hP : va_P D vwCl [(h0, .inr (6, [.ref h1, .int 2])), (h1, .inl (cI, 1600, .inl f_267))] H := hP
          have hD : va_D A [(h0, .inr (6, [.ref h1, .int 2])), (h1, .inl (cI, 1600, .inl f_267))] := hD
          refine lv_iinc (v := 8) (lv' := [(2, .int 8), (0, .ref h0), (1, .int p1)]) hx hb dX7_append_43 hl (k := 0) rfl (by decide) (by decide) rfl (fun ls hl => ?_)
          refine lv_goto (tgt := 3) hx hb dX7_append_46 (by decide) ?_
          refine lv_iload_n hx hb dX7_append_3 rfl (lv_at hl 0 rfl) ?_
          refine lv_if_lt (tgt := 49) hx hb dX7_append_4 (by decide) (fun c_268 => ?_) (fun c_268 => ?_)
          · skip
            exact absurd c_268 (by decide)
          · skip
            refine lv_aload_n hx hb dX7_append_7 rfl (lv_at hl 1 rfl) ?_
            refine va_get (D := D) (ci := 6) (v := .int 2) (C := RX7) (T := TX7) (N := 2) hx hb hts inw_X7_append_X7 hown hK hP 0 rfl rfl 1 (by decide) (hts (.fieldLink RX7 15 "EarTable$Tape" "length" "I") (by decide +kernel)) (fun _ h9 => h9) rfl dX7_append_8 ?_
            refine lv_sipush (v := 1600) hx hb dX7_append_11 (by decide) ?_
            refine lv_icmp_ge (tgt := 49) hx hb dX7_append_14 (by decide) (fun c_269 => ?_) (fun c_269 => ?_)
            · skip
              exact absurd c_269 (by decide)
            · skip
              refine lv_aload_n hx hb dX7_append_17 rfl (lv_at hl 1 rfl) ?_
              refine va_get (D := D) (ci := 6) (v := .ref h1) (C := RX7) (T := TX7) (N := 2) hx hb hts inw_X7_append_X7 hown hK hP 0 rfl rfl 0 (by decide) (hts (.fieldLink RX7 9 "EarTable$Tape" "bytes" "[I") (by decide +kernel)) (fun _ h9 => h9) rfl dX7_append_18 ?_
              refine lv_aload_n hx hb dX7_append_21 rfl (lv_at hl 1 rfl) ?_
              refine va_get (D := D) (ci := 6) (v := .int 2) (C := RX7) (T := TX7) (N := 2) hx hb hts inw_X7_append_X7 hown hK hP 0 rfl rfl 1 (by decide) (hts (.fieldLink RX7 15 "EarTable$Tape" "length" "I") (by decide +kernel)) (fun _ h9 => h9) rfl dX7_append_22 ?_
              refine lv_iload_n hx hb dX7_append_25 rfl (lv_at hl 2 rfl) ?_
              refine lv_iload_n hx hb dX7_append_26 rfl (lv_at hl 0 rfl) ?_
              refine lv_iushr hx hb dX7_append_27 rfl ?_
              refine lv_topi (fun z_270 _ => ?_)
              refine lv_sipush (v := 255) hx hb dX7_append_28 (by decide) ?_
              refine lv_iand hx hb dX7_append_31 ?_
              refine lv_topi (fun z_271 _ => ?_)
              refine kn_iast hx hb hK hP hD hS 1 0 rfl rfl (kn_in (by decide)) dX7_append_32 (fun f_272 H locs hP hD hS => ?_)
              have hP : va_P D vwCl [(h0, .inr (6, [.ref h1, .int 2])), (h1, .inl (cI, 1600, .inl f_272))] H := hP
              have hD : va_D A [(h0, .inr (6, [.ref h1, .int 2])), (h1, .inl (cI, 1600, .inl f_272))] := hD
              refine lv_aload_n hx hb dX7_append_33 rfl (lv_at hl 1 rfl) ?_
              refine lv_dup hx hb dX7_append_34 rfl ?_
              refine va_get (D := D) (ci := 6) (v := .int 2) (C := RX7) (T := TX7) (N := 2) hx hb hts inw_X7_append_X7 hown hK hP 0 rfl rfl 1 (by decide) (hts (.fieldLink RX7 15 "EarTable$Tape" "length" "I") (by decide +kernel)) (fun _ h9 => h9) rfl dX7_append_35 ?_
              refine lv_iconst (v := 1) hx hb dX7_append_38 (by decide) ?_
              refine lv_iadd hx hb dX7_append_39 ?_
              refine kn_top (y := 3) (by decide) ?_
              refine va_put (D := D) (ci := 6) (v := .int 3) (ty := .int) (C := RX7) (T := TX7) (N := 2) hx hb hts inw_X7_append_X7 tyX7 tyX7_ok nmX7 hown hK hP hD hS 0 rfl rfl 1 (by decide) (hts (.fieldLink RX7 15 "EarTable$Tape" "length" "I") (by decide +kernel)) (fun _ h9 => h9) rfl (by decide +kernel) rfl rfl (Nat.le_of_ble_eq_true rfl) dX7_append_40 (fun H locs hP hD hS => ?_)
              have hP : va_P D vwCl [(h0, .inr (6, [.ref h1, .int 3])), (h1, .inl (cI, 1600, .inl f_272))] H := hP
              have hD : va_D A [(h0, .inr (6, [.ref h1, .int 3])), (h1, .inl (cI, 1600, .inl f_272))] := hD
              refine lv_iinc (v := 0) (lv' := [(2, .int 0), (0, .ref h0), (1, .int p1)]) hx hb dX7_append_43 hl (k := 0) rfl (by decide) (by decide) rfl (fun ls hl => ?_)
              refine lv_goto (tgt := 3) hx hb dX7_append_46 (by decide) ?_
              refine lv_iload_n hx hb dX7_append_3 rfl (lv_at hl 0 rfl) ?_
              refine lv_if_lt (tgt := 49) hx hb dX7_append_4 (by decide) (fun c_273 => ?_) (fun c_273 => ?_)
              · skip
                exact absurd c_273 (by decide)
              · skip
                refine lv_aload_n hx hb dX7_append_7 rfl (lv_at hl 1 rfl) ?_
                refine va_get (D := D) (ci := 6) (v := .int 3) (C := RX7) (T := TX7) (N := 2) hx hb hts inw_X7_append_X7 hown hK hP 0 rfl rfl 1 (by decide) (hts (.fieldLink RX7 15 "EarTable$Tape" "length" "I") (by decide +kernel)) (fun _ h9 => h9) rfl dX7_append_8 ?_
                refine lv_sipush (v := 1600) hx hb dX7_append_11 (by decide) ?_
                refine lv_icmp_ge (tgt := 49) hx hb dX7_append_14 (by decide) (fun c_274 => ?_) (fun c_274 => ?_)
                · skip
                  exact absurd c_274 (by decide)
                · skip
                  refine lv_aload_n hx hb dX7_append_17 rfl (lv_at hl 1 rfl) ?_
                  refine va_get (D := D) (ci := 6) (v := .ref h1) (C := RX7) (T := TX7) (N := 2) hx hb hts inw_X7_append_X7 hown hK hP 0 rfl rfl 0 (by decide) (hts (.fieldLink RX7 9 "EarTable$Tape" "bytes" "[I") (by decide +kernel)) (fun _ h9 => h9) rfl dX7_append_18 ?_
                  refine lv_aload_n hx hb dX7_append_21 rfl (lv_at hl 1 rfl) ?_
                  refine va_get (D := D) (ci := 6) (v := .int 3) (C := RX7) (T := TX7) (N := 2) hx hb hts inw_X7_append_X7 hown hK hP 0 rfl rfl 1 (by decide) (hts (.fieldLink RX7 15 "EarTable$Tape" "length" "I") (by decide +kernel)) (fun _ h9 => h9) rfl dX7_append_22 ?_
                  refine lv_iload_n hx hb dX7_append_25 rfl (lv_at hl 2 rfl) ?_
                  refine lv_iload_n hx hb dX7_append_26 rfl (lv_at hl 0 rfl) ?_
                  refine lv_iushr hx hb dX7_append_27 rfl ?_
                  refine lv_topi (fun z_275 _ => ?_)
                  refine lv_sipush (v := 255) hx hb dX7_append_28 (by decide) ?_
                  refine lv_iand hx hb dX7_append_31 ?_
                  refine lv_topi (fun z_276 _ => ?_)
                  refine kn_iast hx hb hK hP hD hS 1 0 rfl rfl (kn_in (by decide)) dX7_append_32 (fun f_277 H locs hP hD hS => ?_)
                  have hP : va_P D vwCl [(h0, .inr (6, [.ref h1, .int 3])), (h1, .inl (cI, 1600, .inl f_277))] H := hP
                  have hD : va_D A [(h0, .inr (6, [.ref h1, .int 3])), (h1, .inl (cI, 1600, .inl f_277))] := hD
                  refine lv_aload_n hx hb dX7_append_33 rfl (lv_at hl 1 rfl) ?_
                  refine lv_dup hx hb dX7_append_34 rfl ?_
                  refine va_get (D := D) (ci := 6) (v := .int 3) (C := RX7) (T := TX7) (N := 2) hx hb hts inw_X7_append_X7 hown hK hP 0 rfl rfl 1 (by decide) (hts (.fieldLink RX7 15 "EarTable$Tape" "length" "I") (by decide +kernel)) (fun _ h9 => h9) rfl dX7_append_35 ?_
                  refine lv_iconst (v := 1) hx hb dX7_append_38 (by decide) ?_
                  refine lv_iadd hx hb dX7_append_39 ?_
                  refine kn_top (y := 4) (by decide) ?_
                  refine va_put (D := D) (ci := 6) (v := .int 4) (ty := .int) (C := RX7) (T := TX7) (N := 2) hx hb hts inw_X7_append_X7 tyX7 tyX7_ok nmX7 hown hK hP hD hS 0 rfl rfl 1 (by decide) (hts (.fieldLink RX7 15 "EarTable$Tape" "length" "I") (by decide +kernel)) (fun _ h9 => h9) rfl (by decide +kernel) rfl rfl (Nat.le_of_ble_eq_true rfl) dX7_append_40 (fun H locs hP hD hS => ?_)
                  have hP : va_P D vwCl [(h0, .inr (6, [.ref h1, .int 4])), (h1, .inl (cI, 1600, .inl f_277))] H := hP
                  have hD : va_D A [(h0, .inr (6, [.ref h1, .int 4])), (h1, .inl (cI, 1600, .inl f_277))] := hD
                  refine lv_iinc (v := (-8)) (lv' := [(2, .int (-8)), (0, .ref h0), (1, .int p1)]) hx hb dX7_append_43 hl (k := 0) rfl (by decide) (by decide) rfl (fun ls hl => ?_)
                  refine lv_goto (tgt := 3) hx hb dX7_append_46 (by decide) ?_
                  refine lv_iload_n hx hb dX7_append_3 rfl (lv_at hl 0 rfl) ?_
                  refine lv_if_lt (tgt := 49) hx hb dX7_append_4 (by decide) (fun c_278 => ?_) (fun c_278 => ?_)
                  · skip
                    have hP9 := hP.sub (ws' := [(h0, .inr (6, [.ref h1, .int 4])), (h1, .inl (cI, 1600, .inl f_277))]) [0, 1] rfl
                    have hD9 := hD.sub (ws' := [(h0, .inr (6, [.ref h1, .int 4])), (h1, .inl (cI, 1600, .inl f_277))]) [0, 1] (by decide) rfl
                    exact W.vret hx hb hr (fun t ht hW => ⟨⟨f_277, rfl, trivial, by rw [ht]; exact hP9, hD9⟩, hS.F ht⟩) hS.2.2 dX7_append_49
                  · skip
                    exact absurd (by decide) c_278
def o_X7_append_k1 : List Cond := [.fieldLink RX7 15 "EarTable$Tape" "length" "I", .fieldLink RX7 9 "EarTable$Tape" "bytes" "[I"]
def u_X7_append_k1 : List Cond := .code yX7_append cX7_append 3 none :: (o_X7_append_k1 ++ (wsX70 ++ ([] : List Cond)))
theorem inw_X7_append_k1_X7 : ∀ w ∈ wsX70, w ∈ u_X7_append_k1 := fun w h => List.mem_cons_of_mem _ (List.mem_append_right _ (List.mem_append_left _ h))
set_option maxRecDepth 20000 in
theorem good_X7_append_k1 : u_X7_append_k1.all goodWord = true := by decide +kernel
set_option maxRecDepth 20000 in
theorem in_X7_append_k1 : ∀ w ∈ u_X7_append_k1, w ∈ lw_tbl := ma_cons inc_X7_append (ma_app (ma_pos o_X7_append_k1 [96, 94] (by decide +kernel)) (ma_app inb_X7 ma_nil))
set_option maxHeartbeats 4000000 in
set_option maxRecDepth 100000 in
theorem c_X7_append_k1 (l : Launch) (D : va_G) (cI cJ cZ cB : ClassId) (sz : Nat) (h0 : Nat) (h1 : Nat) (f0 : Nat → Int32) (p1 : Int32) : Met l yX7_append u_X7_append_k1 ({ frames := 0, cells := 0, slots := 0, locals := 0 }) (va_Pc [.ref h0, .int p1] (kPre D cI cJ cZ cB [(h0, .inr (6, [.ref h1, .int 4])), (h1, .inl (cI, 1600, .inl f0))] sz)) (va_Qv (fun (_ : (Nat → Int32)) => True) (kB D (fun (u : (Nat → Int32)) => [(h0, .inr (6, [.ref h1, .int 8])), (h1, .inl (cI, 1600, .inl u))]) (va_A [(h0, .inr (6, [.ref h1, .int 4])), (h1, .inl (cI, 1600, .inl f0))] sz)) (va_A [(h0, .inr (6, [.ref h1, .int 4])), (h1, .inl (cI, 1600, .inl f0))] sz)) 0 0 (va_A [(h0, .inr (6, [.ref h1, .int 4])), (h1, .inl (cI, 1600, .inl f0))] sz) := by
  refine Met.ofW (cc := cX7_append) (maxL := 3) (ret := none) (by decide) rfl ?_
  intro p e s m args below meth c s₁ B hml hv
  obtain ⟨rfl, hsz, hP, hK, hN, hD0⟩ := hv
  have hx := B.exec
  have hb := B.bytes
  have hr := B.returns
  have hts := atoms_spec (ws := u_X7_append_k1) B.pre
  have hown : s.vm.findClass RX7 = some m.cls := findClass_of_methodNamed B.named
  have hlocks := B.notSynchronized
  subst hsz
  have hD := hD0.self (sz := s.heap.size)
  generalize hAe : va_A [(h0, .inr (6, [.ref h1, .int 4])), (h1, .inl (cI, 1600, .inl f0))] s.heap.size = A at hD ⊢
  have hA : ∀ q : Nat, s.heap.size ≤ q → A q := fun q h => by rw [← hAe]; exact Or.inr h
  have hS : va_S A s.heap s.heap [] := va_S.rf
  have hP : va_P D vwCl [(h0, .inr (6, [.ref h1, .int 4])), (h1, .inl (cI, 1600, .inl f0))] s.heap := hP
  have hl := lv_entry ([.ref h0, .int p1]) (n := 3) (Nat.le_of_ble_eq_true rfl)
  rw [lg_entry_eq]
  generalize (lg_sl ([.ref h0, .int p1]) ++ List.replicate (3 - (lg_sl ([.ref h0, .int p1])).length) Slot.unset).toArray = ls at hl ⊢
  have hl : lv_has ls 3 [(0, .ref h0), (1, .int p1)] := hl
  obtain ⟨H, hHe⟩ : ∃ H, s.heap = H := ⟨_, rfl⟩
  have hP : va_P D vwCl [(h0, .inr (6, [.ref h1, .int 4])), (h1, .inl (cI, 1600, .inl f0))] H := by rw [← hHe]; exact hP
  have hS : va_S A s.heap H [] := by rw [← hHe]; exact hS
  refine kn_heap hHe ?_
  refine lv_bipush (v := 24) hx hb dX7_append_0 (by decide) ?_
  refine lv_istore_n (lv' := [(2, .int 24), (0, .ref h0), (1, .int p1)]) hx hb dX7_append_2 rfl hl (by decide) rfl (fun ls hl => ?_)
  refine lv_iload_n hx hb dX7_append_3 rfl (lv_at hl 0 rfl) ?_
  refine lv_if_lt (tgt := 49) hx hb dX7_append_4 (by decide) (fun c_281 => ?_) (fun c_281 => ?_)
  · skip
    exact absurd c_281 (by decide)
  · skip
    refine lv_aload_n hx hb dX7_append_7 rfl (lv_at hl 1 rfl) ?_
    refine va_get (D := D) (ci := 6) (v := .int 4) (C := RX7) (T := TX7) (N := 2) hx hb hts inw_X7_append_k1_X7 hown hK hP 0 rfl rfl 1 (by decide) (hts (.fieldLink RX7 15 "EarTable$Tape" "length" "I") (by decide +kernel)) (fun _ h9 => h9) rfl dX7_append_8 ?_
    refine lv_sipush (v := 1600) hx hb dX7_append_11 (by decide) ?_
    refine lv_icmp_ge (tgt := 49) hx hb dX7_append_14 (by decide) (fun c_282 => ?_) (fun c_282 => ?_)
    · skip
      exact absurd c_282 (by decide)
    · skip
      refine lv_aload_n hx hb dX7_append_17 rfl (lv_at hl 1 rfl) ?_
      refine va_get (D := D) (ci := 6) (v := .ref h1) (C := RX7) (T := TX7) (N := 2) hx hb hts inw_X7_append_k1_X7 hown hK hP 0 rfl rfl 0 (by decide) (hts (.fieldLink RX7 9 "EarTable$Tape" "bytes" "[I") (by decide +kernel)) (fun _ h9 => h9) rfl dX7_append_18 ?_
      refine lv_aload_n hx hb dX7_append_21 rfl (lv_at hl 1 rfl) ?_
      refine va_get (D := D) (ci := 6) (v := .int 4) (C := RX7) (T := TX7) (N := 2) hx hb hts inw_X7_append_k1_X7 hown hK hP 0 rfl rfl 1 (by decide) (hts (.fieldLink RX7 15 "EarTable$Tape" "length" "I") (by decide +kernel)) (fun _ h9 => h9) rfl dX7_append_22 ?_
      refine lv_iload_n hx hb dX7_append_25 rfl (lv_at hl 2 rfl) ?_
      refine lv_iload_n hx hb dX7_append_26 rfl (lv_at hl 0 rfl) ?_
      refine lv_iushr hx hb dX7_append_27 rfl ?_
      refine lv_topi (fun z_283 _ => ?_)
      refine lv_sipush (v := 255) hx hb dX7_append_28 (by decide) ?_
      refine lv_iand hx hb dX7_append_31 ?_
      refine lv_topi (fun z_284 _ => ?_)
      refine kn_iast hx hb hK hP hD hS 1 0 rfl rfl (kn_in (by decide)) dX7_append_32 (fun f_285 H locs hP hD hS => ?_)
      have hP : va_P D vwCl [(h0, .inr (6, [.ref h1, .int 4])), (h1, .inl (cI, 1600, .inl f_285))] H := hP
      have hD : va_D A [(h0, .inr (6, [.ref h1, .int 4])), (h1, .inl (cI, 1600, .inl f_285))] := hD
      refine lv_aload_n hx hb dX7_append_33 rfl (lv_at hl 1 rfl) ?_
      refine lv_dup hx hb dX7_append_34 rfl ?_
      refine va_get (D := D) (ci := 6) (v := .int 4) (C := RX7) (T := TX7) (N := 2) hx hb hts inw_X7_append_k1_X7 hown hK hP 0 rfl rfl 1 (by decide) (hts (.fieldLink RX7 15 "EarTable$Tape" "length" "I") (by decide +kernel)) (fun _ h9 => h9) rfl dX7_append_35 ?_
      refine lv_iconst (v := 1) hx hb dX7_append_38 (by decide) ?_
      refine lv_iadd hx hb dX7_append_39 ?_
      refine kn_top (y := 5) (by decide) ?_
      refine va_put (D := D) (ci := 6) (v := .int 5) (ty := .int) (C := RX7) (T := TX7) (N := 2) hx hb hts inw_X7_append_k1_X7 tyX7 tyX7_ok nmX7 hown hK hP hD hS 0 rfl rfl 1 (by decide) (hts (.fieldLink RX7 15 "EarTable$Tape" "length" "I") (by decide +kernel)) (fun _ h9 => h9) rfl (by decide +kernel) rfl rfl (Nat.le_of_ble_eq_true rfl) dX7_append_40 (fun H locs hP hD hS => ?_)
      have hP : va_P D vwCl [(h0, .inr (6, [.ref h1, .int 5])), (h1, .inl (cI, 1600, .inl f_285))] H := hP
      have hD : va_D A [(h0, .inr (6, [.ref h1, .int 5])), (h1, .inl (cI, 1600, .inl f_285))] := hD
      refine lv_iinc (v := 16) (lv' := [(2, .int 16), (0, .ref h0), (1, .int p1)]) hx hb dX7_append_43 hl (k := 0) rfl (by decide) (by decide) rfl (fun ls hl => ?_)
      refine lv_goto (tgt := 3) hx hb dX7_append_46 (by decide) ?_
      refine lv_iload_n hx hb dX7_append_3 rfl (lv_at hl 0 rfl) ?_
      refine lv_if_lt (tgt := 49) hx hb dX7_append_4 (by decide) (fun c_286 => ?_) (fun c_286 => ?_)
      · skip
        exact absurd c_286 (by decide)
      · skip
        refine lv_aload_n hx hb dX7_append_7 rfl (lv_at hl 1 rfl) ?_
        refine va_get (D := D) (ci := 6) (v := .int 5) (C := RX7) (T := TX7) (N := 2) hx hb hts inw_X7_append_k1_X7 hown hK hP 0 rfl rfl 1 (by decide) (hts (.fieldLink RX7 15 "EarTable$Tape" "length" "I") (by decide +kernel)) (fun _ h9 => h9) rfl dX7_append_8 ?_
        refine lv_sipush (v := 1600) hx hb dX7_append_11 (by decide) ?_
        refine lv_icmp_ge (tgt := 49) hx hb dX7_append_14 (by decide) (fun c_287 => ?_) (fun c_287 => ?_)
        · skip
          exact absurd c_287 (by decide)
        · skip
          refine lv_aload_n hx hb dX7_append_17 rfl (lv_at hl 1 rfl) ?_
          refine va_get (D := D) (ci := 6) (v := .ref h1) (C := RX7) (T := TX7) (N := 2) hx hb hts inw_X7_append_k1_X7 hown hK hP 0 rfl rfl 0 (by decide) (hts (.fieldLink RX7 9 "EarTable$Tape" "bytes" "[I") (by decide +kernel)) (fun _ h9 => h9) rfl dX7_append_18 ?_
          refine lv_aload_n hx hb dX7_append_21 rfl (lv_at hl 1 rfl) ?_
          refine va_get (D := D) (ci := 6) (v := .int 5) (C := RX7) (T := TX7) (N := 2) hx hb hts inw_X7_append_k1_X7 hown hK hP 0 rfl rfl 1 (by decide) (hts (.fieldLink RX7 15 "EarTable$Tape" "length" "I") (by decide +kernel)) (fun _ h9 => h9) rfl dX7_append_22 ?_
          refine lv_iload_n hx hb dX7_append_25 rfl (lv_at hl 2 rfl) ?_
          refine lv_iload_n hx hb dX7_append_26 rfl (lv_at hl 0 rfl) ?_
          refine lv_iushr hx hb dX7_append_27 rfl ?_
          refine lv_topi (fun z_288 _ => ?_)
          refine lv_sipush (v := 255) hx hb dX7_append_28 (by decide) ?_
          refine lv_iand hx hb dX7_append_31 ?_
          refine lv_topi (fun z_289 _ => ?_)
          refine kn_iast hx hb hK hP hD hS 1 0 rfl rfl (kn_in (by decide)) dX7_append_32 (fun f_290 H locs hP hD hS => ?_)
          have hP : va_P D vwCl [(h0, .inr (6, [.ref h1, .int 5])), (h1, .inl (cI, 1600, .inl f_290))] H := hP
          have hD : va_D A [(h0, .inr (6, [.ref h1, .int 5])), (h1, .inl (cI, 1600, .inl f_290))] := hD
          refine lv_aload_n hx hb dX7_append_33 rfl (lv_at hl 1 rfl) ?_
          refine lv_dup hx hb dX7_append_34 rfl ?_
          refine va_get (D := D) (ci := 6) (v := .int 5) (C := RX7) (T := TX7) (N := 2) hx hb hts inw_X7_append_k1_X7 hown hK hP 0 rfl rfl 1 (by decide) (hts (.fieldLink RX7 15 "EarTable$Tape" "length" "I") (by decide +kernel)) (fun _ h9 => h9) rfl dX7_append_35 ?_
          refine lv_iconst (v := 1) hx hb dX7_append_38 (by decide) ?_
          refine lv_iadd hx hb dX7_append_39 ?_
          refine kn_top (y := 6) (by decide) ?_
          refine va_put (D := D) (ci := 6) (v := .int 6) (ty := .int) (C := RX7) (T := TX7) (N := 2) hx hb hts inw_X7_append_k1_X7 tyX7 tyX7_ok nmX7 hown hK hP hD hS 0 rfl rfl 1 (by decide) (hts (.fieldLink RX7 15 "EarTable$Tape" "length" "I") (by decide +kernel)) (fun _ h9 => h9) rfl (by decide +kernel) rfl rfl (Nat.le_of_ble_eq_true rfl) dX7_append_40 (fun H locs hP hD hS => ?_)
          have hP : va_P D vwCl [(h0, .inr (6, [.ref h1, .int 6])), (h1, .inl (cI, 1600, .inl f_290))] H := hP
          have hD : va_D A [(h0, .inr (6, [.ref h1, .int 6])), (h1, .inl (cI, 1600, .inl f_290))] := hD
          refine lv_iinc (v := 8) (lv' := [(2, .int 8), (0, .ref h0), (1, .int p1)]) hx hb dX7_append_43 hl (k := 0) rfl (by decide) (by decide) rfl (fun ls hl => ?_)
          refine lv_goto (tgt := 3) hx hb dX7_append_46 (by decide) ?_
          refine lv_iload_n hx hb dX7_append_3 rfl (lv_at hl 0 rfl) ?_
          refine lv_if_lt (tgt := 49) hx hb dX7_append_4 (by decide) (fun c_291 => ?_) (fun c_291 => ?_)
          · skip
            exact absurd c_291 (by decide)
          · skip
            refine lv_aload_n hx hb dX7_append_7 rfl (lv_at hl 1 rfl) ?_
            refine va_get (D := D) (ci := 6) (v := .int 6) (C := RX7) (T := TX7) (N := 2) hx hb hts inw_X7_append_k1_X7 hown hK hP 0 rfl rfl 1 (by decide) (hts (.fieldLink RX7 15 "EarTable$Tape" "length" "I") (by decide +kernel)) (fun _ h9 => h9) rfl dX7_append_8 ?_
            refine lv_sipush (v := 1600) hx hb dX7_append_11 (by decide) ?_
            refine lv_icmp_ge (tgt := 49) hx hb dX7_append_14 (by decide) (fun c_292 => ?_) (fun c_292 => ?_)
            · skip
              exact absurd c_292 (by decide)
            · skip
              refine lv_aload_n hx hb dX7_append_17 rfl (lv_at hl 1 rfl) ?_
              refine va_get (D := D) (ci := 6) (v := .ref h1) (C := RX7) (T := TX7) (N := 2) hx hb hts inw_X7_append_k1_X7 hown hK hP 0 rfl rfl 0 (by decide) (hts (.fieldLink RX7 9 "EarTable$Tape" "bytes" "[I") (by decide +kernel)) (fun _ h9 => h9) rfl dX7_append_18 ?_
              refine lv_aload_n hx hb dX7_append_21 rfl (lv_at hl 1 rfl) ?_
              refine va_get (D := D) (ci := 6) (v := .int 6) (C := RX7) (T := TX7) (N := 2) hx hb hts inw_X7_append_k1_X7 hown hK hP 0 rfl rfl 1 (by decide) (hts (.fieldLink RX7 15 "EarTable$Tape" "length" "I") (by decide +kernel)) (fun _ h9 => h9) rfl dX7_append_22 ?_
              refine lv_iload_n hx hb dX7_append_25 rfl (lv_at hl 2 rfl) ?_
              refine lv_iload_n hx hb dX7_append_26 rfl (lv_at hl 0 rfl) ?_
              refine lv_iushr hx hb dX7_append_27 rfl ?_
              refine lv_topi (fun z_293 _ => ?_)
              refine lv_sipush (v := 255) hx hb dX7_append_28 (by decide) ?_
              refine lv_iand hx hb dX7_append_31 ?_
              refine lv_topi (fun z_294 _ => ?_)
              refine kn_iast hx hb hK hP hD hS 1 0 rfl rfl (kn_in (by decide)) dX7_append_32 (fun f_295 H locs hP hD hS => ?_)
              have hP : va_P D vwCl [(h0, .inr (6, [.ref h1, .int 6])), (h1, .inl (cI, 1600, .inl f_295))] H := hP
              have hD : va_D A [(h0, .inr (6, [.ref h1, .int 6])), (h1, .inl (cI, 1600, .inl f_295))] := hD
              refine lv_aload_n hx hb dX7_append_33 rfl (lv_at hl 1 rfl) ?_
              refine lv_dup hx hb dX7_append_34 rfl ?_
              refine va_get (D := D) (ci := 6) (v := .int 6) (C := RX7) (T := TX7) (N := 2) hx hb hts inw_X7_append_k1_X7 hown hK hP 0 rfl rfl 1 (by decide) (hts (.fieldLink RX7 15 "EarTable$Tape" "length" "I") (by decide +kernel)) (fun _ h9 => h9) rfl dX7_append_35 ?_
              refine lv_iconst (v := 1) hx hb dX7_append_38 (by decide) ?_
              refine lv_iadd hx hb dX7_append_39 ?_
              refine kn_top (y := 7) (by decide) ?_
              refine va_put (D := D) (ci := 6) (v := .int 7) (ty := .int) (C := RX7) (T := TX7) (N := 2) hx hb hts inw_X7_append_k1_X7 tyX7 tyX7_ok nmX7 hown hK hP hD hS 0 rfl rfl 1 (by decide) (hts (.fieldLink RX7 15 "EarTable$Tape" "length" "I") (by decide +kernel)) (fun _ h9 => h9) rfl (by decide +kernel) rfl rfl (Nat.le_of_ble_eq_true rfl) dX7_append_40 (fun H locs hP hD hS => ?_)
              have hP : va_P D vwCl [(h0, .inr (6, [.ref h1, .int 7])), (h1, .inl (cI, 1600, .inl f_295))] H := hP
              have hD : va_D A [(h0, .inr (6, [.ref h1, .int 7])), (h1, .inl (cI, 1600, .inl f_295))] := hD
              refine lv_iinc (v := 0) (lv' := [(2, .int 0), (0, .ref h0), (1, .int p1)]) hx hb dX7_append_43 hl (k := 0) rfl (by decide) (by decide) rfl (fun ls hl => ?_)
              refine lv_goto (tgt := 3) hx hb dX7_append_46 (by decide) ?_
              refine lv_iload_n hx hb dX7_append_3 rfl (lv_at hl 0 rfl) ?_
              refine lv_if_lt (tgt := 49) hx hb dX7_append_4 (by decide) (fun c_296 => ?_) (fun c_296 => ?_)
              · skip
                exact absurd c_296 (by decide)
              · skip
                refine lv_aload_n hx hb dX7_append_7 rfl (lv_at hl 1 rfl) ?_
                refine va_get (D := D) (ci := 6) (v := .int 7) (C := RX7) (T := TX7) (N := 2) hx hb hts inw_X7_append_k1_X7 hown hK hP 0 rfl rfl 1 (by decide) (hts (.fieldLink RX7 15 "EarTable$Tape" "length" "I") (by decide +kernel)) (fun _ h9 => h9) rfl dX7_append_8 ?_
                refine lv_sipush (v := 1600) hx hb dX7_append_11 (by decide) ?_
                refine lv_icmp_ge (tgt := 49) hx hb dX7_append_14 (by decide) (fun c_297 => ?_) (fun c_297 => ?_)
                · skip
                  exact absurd c_297 (by decide)
                · skip
                  refine lv_aload_n hx hb dX7_append_17 rfl (lv_at hl 1 rfl) ?_
                  refine va_get (D := D) (ci := 6) (v := .ref h1) (C := RX7) (T := TX7) (N := 2) hx hb hts inw_X7_append_k1_X7 hown hK hP 0 rfl rfl 0 (by decide) (hts (.fieldLink RX7 9 "EarTable$Tape" "bytes" "[I") (by decide +kernel)) (fun _ h9 => h9) rfl dX7_append_18 ?_
                  refine lv_aload_n hx hb dX7_append_21 rfl (lv_at hl 1 rfl) ?_
                  refine va_get (D := D) (ci := 6) (v := .int 7) (C := RX7) (T := TX7) (N := 2) hx hb hts inw_X7_append_k1_X7 hown hK hP 0 rfl rfl 1 (by decide) (hts (.fieldLink RX7 15 "EarTable$Tape" "length" "I") (by decide +kernel)) (fun _ h9 => h9) rfl dX7_append_22 ?_
                  refine lv_iload_n hx hb dX7_append_25 rfl (lv_at hl 2 rfl) ?_
                  refine lv_iload_n hx hb dX7_append_26 rfl (lv_at hl 0 rfl) ?_
                  refine lv_iushr hx hb dX7_append_27 rfl ?_
                  refine lv_topi (fun z_298 _ => ?_)
                  refine lv_sipush (v := 255) hx hb dX7_append_28 (by decide) ?_
                  refine lv_iand hx hb dX7_append_31 ?_
                  refine lv_topi (fun z_299 _ => ?_)
                  refine kn_iast hx hb hK hP hD hS 1 0 rfl rfl (kn_in (by decide)) dX7_append_32 (fun f_300 H locs hP hD hS => ?_)
                  have hP : va_P D vwCl [(h0, .inr (6, [.ref h1, .int 7])), (h1, .inl (cI, 1600, .inl f_300))] H := hP
                  have hD : va_D A [(h0, .inr (6, [.ref h1, .int 7])), (h1, .inl (cI, 1600, .inl f_300))] := hD
                  refine lv_aload_n hx hb dX7_append_33 rfl (lv_at hl 1 rfl) ?_
                  refine lv_dup hx hb dX7_append_34 rfl ?_
                  refine va_get (D := D) (ci := 6) (v := .int 7) (C := RX7) (T := TX7) (N := 2) hx hb hts inw_X7_append_k1_X7 hown hK hP 0 rfl rfl 1 (by decide) (hts (.fieldLink RX7 15 "EarTable$Tape" "length" "I") (by decide +kernel)) (fun _ h9 => h9) rfl dX7_append_35 ?_
                  refine lv_iconst (v := 1) hx hb dX7_append_38 (by decide) ?_
                  refine lv_iadd hx hb dX7_append_39 ?_
                  refine kn_top (y := 8) (by decide) ?_
                  refine va_put (D := D) (ci := 6) (v := .int 8) (ty := .int) (C := RX7) (T := TX7) (N := 2) hx hb hts inw_X7_append_k1_X7 tyX7 tyX7_ok nmX7 hown hK hP hD hS 0 rfl rfl 1 (by decide) (hts (.fieldLink RX7 15 "EarTable$Tape" "length" "I") (by decide +kernel)) (fun _ h9 => h9) rfl (by decide +kernel) rfl rfl (Nat.le_of_ble_eq_true rfl) dX7_append_40 (fun H locs hP hD hS => ?_)
                  have hP : va_P D vwCl [(h0, .inr (6, [.ref h1, .int 8])), (h1, .inl (cI, 1600, .inl f_300))] H := hP
                  have hD : va_D A [(h0, .inr (6, [.ref h1, .int 8])), (h1, .inl (cI, 1600, .inl f_300))] := hD
                  refine lv_iinc (v := (-8)) (lv' := [(2, .int (-8)), (0, .ref h0), (1, .int p1)]) hx hb dX7_append_43 hl (k := 0) rfl (by decide) (by decide) rfl (fun ls hl => ?_)
                  refine lv_goto (tgt := 3) hx hb dX7_append_46 (by decide) ?_
                  refine lv_iload_n hx hb dX7_append_3 rfl (lv_at hl 0 rfl) ?_
                  refine lv_if_lt (tgt := 49) hx hb dX7_append_4 (by decide) (fun c_301 => ?_) (fun c_301 => ?_)
                  · skip
                    have hP9 := hP.sub (ws' := [(h0, .inr (6, [.ref h1, .int 8])), (h1, .inl (cI, 1600, .inl f_300))]) [0, 1] rfl
                    have hD9 := hD.sub (ws' := [(h0, .inr (6, [.ref h1, .int 8])), (h1, .inl (cI, 1600, .inl f_300))]) [0, 1] (by decide) rfl
                    exact W.vret hx hb hr (fun t ht hW => ⟨⟨f_300, rfl, trivial, by rw [ht]; exact hP9, hD9⟩, hS.F ht⟩) hS.2.2 dX7_append_49
                  · skip
                    exact absurd (by decide) c_301
def o_X7_append_k2 : List Cond := [.fieldLink RX7 15 "EarTable$Tape" "length" "I", .fieldLink RX7 9 "EarTable$Tape" "bytes" "[I"]
def u_X7_append_k2 : List Cond := .code yX7_append cX7_append 3 none :: (o_X7_append_k2 ++ (wsX70 ++ ([] : List Cond)))
theorem inw_X7_append_k2_X7 : ∀ w ∈ wsX70, w ∈ u_X7_append_k2 := fun w h => List.mem_cons_of_mem _ (List.mem_append_right _ (List.mem_append_left _ h))
set_option maxRecDepth 20000 in
theorem good_X7_append_k2 : u_X7_append_k2.all goodWord = true := by decide +kernel
set_option maxRecDepth 20000 in
theorem in_X7_append_k2 : ∀ w ∈ u_X7_append_k2, w ∈ lw_tbl := ma_cons inc_X7_append (ma_app (ma_pos o_X7_append_k2 [96, 94] (by decide +kernel)) (ma_app inb_X7 ma_nil))
set_option maxHeartbeats 4000000 in
set_option maxRecDepth 100000 in
theorem c_X7_append_k2 (l : Launch) (D : va_G) (cI cJ cZ cB : ClassId) (sz : Nat) (h0 : Nat) (h1 : Nat) (f0 : Nat → Int32) (p1 : Int32) : Met l yX7_append u_X7_append_k2 ({ frames := 0, cells := 0, slots := 0, locals := 0 }) (va_Pc [.ref h0, .int p1] (kPre D cI cJ cZ cB [(h0, .inr (6, [.ref h1, .int 8])), (h1, .inl (cI, 1600, .inl f0))] sz)) (va_Qv (fun (_ : (Nat → Int32)) => True) (kB D (fun (u : (Nat → Int32)) => [(h0, .inr (6, [.ref h1, .int 12])), (h1, .inl (cI, 1600, .inl u))]) (va_A [(h0, .inr (6, [.ref h1, .int 8])), (h1, .inl (cI, 1600, .inl f0))] sz)) (va_A [(h0, .inr (6, [.ref h1, .int 8])), (h1, .inl (cI, 1600, .inl f0))] sz)) 0 0 (va_A [(h0, .inr (6, [.ref h1, .int 8])), (h1, .inl (cI, 1600, .inl f0))] sz) := by
  refine Met.ofW (cc := cX7_append) (maxL := 3) (ret := none) (by decide) rfl ?_
  intro p e s m args below meth c s₁ B hml hv
  obtain ⟨rfl, hsz, hP, hK, hN, hD0⟩ := hv
  have hx := B.exec
  have hb := B.bytes
  have hr := B.returns
  have hts := atoms_spec (ws := u_X7_append_k2) B.pre
  have hown : s.vm.findClass RX7 = some m.cls := findClass_of_methodNamed B.named
  have hlocks := B.notSynchronized
  subst hsz
  have hD := hD0.self (sz := s.heap.size)
  generalize hAe : va_A [(h0, .inr (6, [.ref h1, .int 8])), (h1, .inl (cI, 1600, .inl f0))] s.heap.size = A at hD ⊢
  have hA : ∀ q : Nat, s.heap.size ≤ q → A q := fun q h => by rw [← hAe]; exact Or.inr h
  have hS : va_S A s.heap s.heap [] := va_S.rf
  have hP : va_P D vwCl [(h0, .inr (6, [.ref h1, .int 8])), (h1, .inl (cI, 1600, .inl f0))] s.heap := hP
  have hl := lv_entry ([.ref h0, .int p1]) (n := 3) (Nat.le_of_ble_eq_true rfl)
  rw [lg_entry_eq]
  generalize (lg_sl ([.ref h0, .int p1]) ++ List.replicate (3 - (lg_sl ([.ref h0, .int p1])).length) Slot.unset).toArray = ls at hl ⊢
  have hl : lv_has ls 3 [(0, .ref h0), (1, .int p1)] := hl
  obtain ⟨H, hHe⟩ : ∃ H, s.heap = H := ⟨_, rfl⟩
  have hP : va_P D vwCl [(h0, .inr (6, [.ref h1, .int 8])), (h1, .inl (cI, 1600, .inl f0))] H := by rw [← hHe]; exact hP
  have hS : va_S A s.heap H [] := by rw [← hHe]; exact hS
  refine kn_heap hHe ?_
  refine lv_bipush (v := 24) hx hb dX7_append_0 (by decide) ?_
  refine lv_istore_n (lv' := [(2, .int 24), (0, .ref h0), (1, .int p1)]) hx hb dX7_append_2 rfl hl (by decide) rfl (fun ls hl => ?_)
  refine lv_iload_n hx hb dX7_append_3 rfl (lv_at hl 0 rfl) ?_
  refine lv_if_lt (tgt := 49) hx hb dX7_append_4 (by decide) (fun c_304 => ?_) (fun c_304 => ?_)
  · skip
    exact absurd c_304 (by decide)
  · skip
    refine lv_aload_n hx hb dX7_append_7 rfl (lv_at hl 1 rfl) ?_
    refine va_get (D := D) (ci := 6) (v := .int 8) (C := RX7) (T := TX7) (N := 2) hx hb hts inw_X7_append_k2_X7 hown hK hP 0 rfl rfl 1 (by decide) (hts (.fieldLink RX7 15 "EarTable$Tape" "length" "I") (by decide +kernel)) (fun _ h9 => h9) rfl dX7_append_8 ?_
    refine lv_sipush (v := 1600) hx hb dX7_append_11 (by decide) ?_
    refine lv_icmp_ge (tgt := 49) hx hb dX7_append_14 (by decide) (fun c_305 => ?_) (fun c_305 => ?_)
    · skip
      exact absurd c_305 (by decide)
    · skip
      refine lv_aload_n hx hb dX7_append_17 rfl (lv_at hl 1 rfl) ?_
      refine va_get (D := D) (ci := 6) (v := .ref h1) (C := RX7) (T := TX7) (N := 2) hx hb hts inw_X7_append_k2_X7 hown hK hP 0 rfl rfl 0 (by decide) (hts (.fieldLink RX7 9 "EarTable$Tape" "bytes" "[I") (by decide +kernel)) (fun _ h9 => h9) rfl dX7_append_18 ?_
      refine lv_aload_n hx hb dX7_append_21 rfl (lv_at hl 1 rfl) ?_
      refine va_get (D := D) (ci := 6) (v := .int 8) (C := RX7) (T := TX7) (N := 2) hx hb hts inw_X7_append_k2_X7 hown hK hP 0 rfl rfl 1 (by decide) (hts (.fieldLink RX7 15 "EarTable$Tape" "length" "I") (by decide +kernel)) (fun _ h9 => h9) rfl dX7_append_22 ?_
      refine lv_iload_n hx hb dX7_append_25 rfl (lv_at hl 2 rfl) ?_
      refine lv_iload_n hx hb dX7_append_26 rfl (lv_at hl 0 rfl) ?_
      refine lv_iushr hx hb dX7_append_27 rfl ?_
      refine lv_topi (fun z_306 _ => ?_)
      refine lv_sipush (v := 255) hx hb dX7_append_28 (by decide) ?_
      refine lv_iand hx hb dX7_append_31 ?_
      refine lv_topi (fun z_307 _ => ?_)
      refine kn_iast hx hb hK hP hD hS 1 0 rfl rfl (kn_in (by decide)) dX7_append_32 (fun f_308 H locs hP hD hS => ?_)
      have hP : va_P D vwCl [(h0, .inr (6, [.ref h1, .int 8])), (h1, .inl (cI, 1600, .inl f_308))] H := hP
      have hD : va_D A [(h0, .inr (6, [.ref h1, .int 8])), (h1, .inl (cI, 1600, .inl f_308))] := hD
      refine lv_aload_n hx hb dX7_append_33 rfl (lv_at hl 1 rfl) ?_
      refine lv_dup hx hb dX7_append_34 rfl ?_
      refine va_get (D := D) (ci := 6) (v := .int 8) (C := RX7) (T := TX7) (N := 2) hx hb hts inw_X7_append_k2_X7 hown hK hP 0 rfl rfl 1 (by decide) (hts (.fieldLink RX7 15 "EarTable$Tape" "length" "I") (by decide +kernel)) (fun _ h9 => h9) rfl dX7_append_35 ?_
      refine lv_iconst (v := 1) hx hb dX7_append_38 (by decide) ?_
      refine lv_iadd hx hb dX7_append_39 ?_
      refine kn_top (y := 9) (by decide) ?_
      refine va_put (D := D) (ci := 6) (v := .int 9) (ty := .int) (C := RX7) (T := TX7) (N := 2) hx hb hts inw_X7_append_k2_X7 tyX7 tyX7_ok nmX7 hown hK hP hD hS 0 rfl rfl 1 (by decide) (hts (.fieldLink RX7 15 "EarTable$Tape" "length" "I") (by decide +kernel)) (fun _ h9 => h9) rfl (by decide +kernel) rfl rfl (Nat.le_of_ble_eq_true rfl) dX7_append_40 (fun H locs hP hD hS => ?_)
      have hP : va_P D vwCl [(h0, .inr (6, [.ref h1, .int 9])), (h1, .inl (cI, 1600, .inl f_308))] H := hP
      have hD : va_D A [(h0, .inr (6, [.ref h1, .int 9])), (h1, .inl (cI, 1600, .inl f_308))] := hD
      refine lv_iinc (v := 16) (lv' := [(2, .int 16), (0, .ref h0), (1, .int p1)]) hx hb dX7_append_43 hl (k := 0) rfl (by decide) (by decide) rfl (fun ls hl => ?_)
      refine lv_goto (tgt := 3) hx hb dX7_append_46 (by decide) ?_
      refine lv_iload_n hx hb dX7_append_3 rfl (lv_at hl 0 rfl) ?_
      refine lv_if_lt (tgt := 49) hx hb dX7_append_4 (by decide) (fun c_309 => ?_) (fun c_309 => ?_)
      · skip
        exact absurd c_309 (by decide)
      · skip
        refine lv_aload_n hx hb dX7_append_7 rfl (lv_at hl 1 rfl) ?_
        refine va_get (D := D) (ci := 6) (v := .int 9) (C := RX7) (T := TX7) (N := 2) hx hb hts inw_X7_append_k2_X7 hown hK hP 0 rfl rfl 1 (by decide) (hts (.fieldLink RX7 15 "EarTable$Tape" "length" "I") (by decide +kernel)) (fun _ h9 => h9) rfl dX7_append_8 ?_
        refine lv_sipush (v := 1600) hx hb dX7_append_11 (by decide) ?_
        refine lv_icmp_ge (tgt := 49) hx hb dX7_append_14 (by decide) (fun c_310 => ?_) (fun c_310 => ?_)
        · skip
          exact absurd c_310 (by decide)
        · skip
          refine lv_aload_n hx hb dX7_append_17 rfl (lv_at hl 1 rfl) ?_
          refine va_get (D := D) (ci := 6) (v := .ref h1) (C := RX7) (T := TX7) (N := 2) hx hb hts inw_X7_append_k2_X7 hown hK hP 0 rfl rfl 0 (by decide) (hts (.fieldLink RX7 9 "EarTable$Tape" "bytes" "[I") (by decide +kernel)) (fun _ h9 => h9) rfl dX7_append_18 ?_
          refine lv_aload_n hx hb dX7_append_21 rfl (lv_at hl 1 rfl) ?_
          refine va_get (D := D) (ci := 6) (v := .int 9) (C := RX7) (T := TX7) (N := 2) hx hb hts inw_X7_append_k2_X7 hown hK hP 0 rfl rfl 1 (by decide) (hts (.fieldLink RX7 15 "EarTable$Tape" "length" "I") (by decide +kernel)) (fun _ h9 => h9) rfl dX7_append_22 ?_
          refine lv_iload_n hx hb dX7_append_25 rfl (lv_at hl 2 rfl) ?_
          refine lv_iload_n hx hb dX7_append_26 rfl (lv_at hl 0 rfl) ?_
          refine lv_iushr hx hb dX7_append_27 rfl ?_
          refine lv_topi (fun z_311 _ => ?_)
          refine lv_sipush (v := 255) hx hb dX7_append_28 (by decide) ?_
          refine lv_iand hx hb dX7_append_31 ?_
          refine lv_topi (fun z_312 _ => ?_)
          refine kn_iast hx hb hK hP hD hS 1 0 rfl rfl (kn_in (by decide)) dX7_append_32 (fun f_313 H locs hP hD hS => ?_)
          have hP : va_P D vwCl [(h0, .inr (6, [.ref h1, .int 9])), (h1, .inl (cI, 1600, .inl f_313))] H := hP
          have hD : va_D A [(h0, .inr (6, [.ref h1, .int 9])), (h1, .inl (cI, 1600, .inl f_313))] := hD
          refine lv_aload_n hx hb dX7_append_33 rfl (lv_at hl 1 rfl) ?_
          refine lv_dup hx hb dX7_append_34 rfl ?_
          refine va_get (D := D) (ci := 6) (v := .int 9) (C := RX7) (T := TX7) (N := 2) hx hb hts inw_X7_append_k2_X7 hown hK hP 0 rfl rfl 1 (by decide) (hts (.fieldLink RX7 15 "EarTable$Tape" "length" "I") (by decide +kernel)) (fun _ h9 => h9) rfl dX7_append_35 ?_
          refine lv_iconst (v := 1) hx hb dX7_append_38 (by decide) ?_
          refine lv_iadd hx hb dX7_append_39 ?_
          refine kn_top (y := 10) (by decide) ?_
          refine va_put (D := D) (ci := 6) (v := .int 10) (ty := .int) (C := RX7) (T := TX7) (N := 2) hx hb hts inw_X7_append_k2_X7 tyX7 tyX7_ok nmX7 hown hK hP hD hS 0 rfl rfl 1 (by decide) (hts (.fieldLink RX7 15 "EarTable$Tape" "length" "I") (by decide +kernel)) (fun _ h9 => h9) rfl (by decide +kernel) rfl rfl (Nat.le_of_ble_eq_true rfl) dX7_append_40 (fun H locs hP hD hS => ?_)
          have hP : va_P D vwCl [(h0, .inr (6, [.ref h1, .int 10])), (h1, .inl (cI, 1600, .inl f_313))] H := hP
          have hD : va_D A [(h0, .inr (6, [.ref h1, .int 10])), (h1, .inl (cI, 1600, .inl f_313))] := hD
          refine lv_iinc (v := 8) (lv' := [(2, .int 8), (0, .ref h0), (1, .int p1)]) hx hb dX7_append_43 hl (k := 0) rfl (by decide) (by decide) rfl (fun ls hl => ?_)
          refine lv_goto (tgt := 3) hx hb dX7_append_46 (by decide) ?_
          refine lv_iload_n hx hb dX7_append_3 rfl (lv_at hl 0 rfl) ?_
          refine lv_if_lt (tgt := 49) hx hb dX7_append_4 (by decide) (fun c_314 => ?_) (fun c_314 => ?_)
          · skip
            exact absurd c_314 (by decide)
          · skip
            refine lv_aload_n hx hb dX7_append_7 rfl (lv_at hl 1 rfl) ?_
            refine va_get (D := D) (ci := 6) (v := .int 10) (C := RX7) (T := TX7) (N := 2) hx hb hts inw_X7_append_k2_X7 hown hK hP 0 rfl rfl 1 (by decide) (hts (.fieldLink RX7 15 "EarTable$Tape" "length" "I") (by decide +kernel)) (fun _ h9 => h9) rfl dX7_append_8 ?_
            refine lv_sipush (v := 1600) hx hb dX7_append_11 (by decide) ?_
            refine lv_icmp_ge (tgt := 49) hx hb dX7_append_14 (by decide) (fun c_315 => ?_) (fun c_315 => ?_)
            · skip
              exact absurd c_315 (by decide)
            · skip
              refine lv_aload_n hx hb dX7_append_17 rfl (lv_at hl 1 rfl) ?_
              refine va_get (D := D) (ci := 6) (v := .ref h1) (C := RX7) (T := TX7) (N := 2) hx hb hts inw_X7_append_k2_X7 hown hK hP 0 rfl rfl 0 (by decide) (hts (.fieldLink RX7 9 "EarTable$Tape" "bytes" "[I") (by decide +kernel)) (fun _ h9 => h9) rfl dX7_append_18 ?_
              refine lv_aload_n hx hb dX7_append_21 rfl (lv_at hl 1 rfl) ?_
              refine va_get (D := D) (ci := 6) (v := .int 10) (C := RX7) (T := TX7) (N := 2) hx hb hts inw_X7_append_k2_X7 hown hK hP 0 rfl rfl 1 (by decide) (hts (.fieldLink RX7 15 "EarTable$Tape" "length" "I") (by decide +kernel)) (fun _ h9 => h9) rfl dX7_append_22 ?_
              refine lv_iload_n hx hb dX7_append_25 rfl (lv_at hl 2 rfl) ?_
              refine lv_iload_n hx hb dX7_append_26 rfl (lv_at hl 0 rfl) ?_
              refine lv_iushr hx hb dX7_append_27 rfl ?_
              refine lv_topi (fun z_316 _ => ?_)
              refine lv_sipush (v := 255) hx hb dX7_append_28 (by decide) ?_
              refine lv_iand hx hb dX7_append_31 ?_
              refine lv_topi (fun z_317 _ => ?_)
              refine kn_iast hx hb hK hP hD hS 1 0 rfl rfl (kn_in (by decide)) dX7_append_32 (fun f_318 H locs hP hD hS => ?_)
              have hP : va_P D vwCl [(h0, .inr (6, [.ref h1, .int 10])), (h1, .inl (cI, 1600, .inl f_318))] H := hP
              have hD : va_D A [(h0, .inr (6, [.ref h1, .int 10])), (h1, .inl (cI, 1600, .inl f_318))] := hD
              refine lv_aload_n hx hb dX7_append_33 rfl (lv_at hl 1 rfl) ?_
              refine lv_dup hx hb dX7_append_34 rfl ?_
              refine va_get (D := D) (ci := 6) (v := .int 10) (C := RX7) (T := TX7) (N := 2) hx hb hts inw_X7_append_k2_X7 hown hK hP 0 rfl rfl 1 (by decide) (hts (.fieldLink RX7 15 "EarTable$Tape" "length" "I") (by decide +kernel)) (fun _ h9 => h9) rfl dX7_append_35 ?_
              refine lv_iconst (v := 1) hx hb dX7_append_38 (by decide) ?_
              refine lv_iadd hx hb dX7_append_39 ?_
              refine kn_top (y := 11) (by decide) ?_
              refine va_put (D := D) (ci := 6) (v := .int 11) (ty := .int) (C := RX7) (T := TX7) (N := 2) hx hb hts inw_X7_append_k2_X7 tyX7 tyX7_ok nmX7 hown hK hP hD hS 0 rfl rfl 1 (by decide) (hts (.fieldLink RX7 15 "EarTable$Tape" "length" "I") (by decide +kernel)) (fun _ h9 => h9) rfl (by decide +kernel) rfl rfl (Nat.le_of_ble_eq_true rfl) dX7_append_40 (fun H locs hP hD hS => ?_)
              have hP : va_P D vwCl [(h0, .inr (6, [.ref h1, .int 11])), (h1, .inl (cI, 1600, .inl f_318))] H := hP
              have hD : va_D A [(h0, .inr (6, [.ref h1, .int 11])), (h1, .inl (cI, 1600, .inl f_318))] := hD
              refine lv_iinc (v := 0) (lv' := [(2, .int 0), (0, .ref h0), (1, .int p1)]) hx hb dX7_append_43 hl (k := 0) rfl (by decide) (by decide) rfl (fun ls hl => ?_)
              refine lv_goto (tgt := 3) hx hb dX7_append_46 (by decide) ?_
              refine lv_iload_n hx hb dX7_append_3 rfl (lv_at hl 0 rfl) ?_
              refine lv_if_lt (tgt := 49) hx hb dX7_append_4 (by decide) (fun c_319 => ?_) (fun c_319 => ?_)
              · skip
                exact absurd c_319 (by decide)
              · skip
                refine lv_aload_n hx hb dX7_append_7 rfl (lv_at hl 1 rfl) ?_
                refine va_get (D := D) (ci := 6) (v := .int 11) (C := RX7) (T := TX7) (N := 2) hx hb hts inw_X7_append_k2_X7 hown hK hP 0 rfl rfl 1 (by decide) (hts (.fieldLink RX7 15 "EarTable$Tape" "length" "I") (by decide +kernel)) (fun _ h9 => h9) rfl dX7_append_8 ?_
                refine lv_sipush (v := 1600) hx hb dX7_append_11 (by decide) ?_
                refine lv_icmp_ge (tgt := 49) hx hb dX7_append_14 (by decide) (fun c_320 => ?_) (fun c_320 => ?_)
                · skip
                  exact absurd c_320 (by decide)
                · skip
                  refine lv_aload_n hx hb dX7_append_17 rfl (lv_at hl 1 rfl) ?_
                  refine va_get (D := D) (ci := 6) (v := .ref h1) (C := RX7) (T := TX7) (N := 2) hx hb hts inw_X7_append_k2_X7 hown hK hP 0 rfl rfl 0 (by decide) (hts (.fieldLink RX7 9 "EarTable$Tape" "bytes" "[I") (by decide +kernel)) (fun _ h9 => h9) rfl dX7_append_18 ?_
                  refine lv_aload_n hx hb dX7_append_21 rfl (lv_at hl 1 rfl) ?_
                  refine va_get (D := D) (ci := 6) (v := .int 11) (C := RX7) (T := TX7) (N := 2) hx hb hts inw_X7_append_k2_X7 hown hK hP 0 rfl rfl 1 (by decide) (hts (.fieldLink RX7 15 "EarTable$Tape" "length" "I") (by decide +kernel)) (fun _ h9 => h9) rfl dX7_append_22 ?_
                  refine lv_iload_n hx hb dX7_append_25 rfl (lv_at hl 2 rfl) ?_
                  refine lv_iload_n hx hb dX7_append_26 rfl (lv_at hl 0 rfl) ?_
                  refine lv_iushr hx hb dX7_append_27 rfl ?_
                  refine lv_topi (fun z_321 _ => ?_)
                  refine lv_sipush (v := 255) hx hb dX7_append_28 (by decide) ?_
                  refine lv_iand hx hb dX7_append_31 ?_
                  refine lv_topi (fun z_322 _ => ?_)
                  refine kn_iast hx hb hK hP hD hS 1 0 rfl rfl (kn_in (by decide)) dX7_append_32 (fun f_323 H locs hP hD hS => ?_)
                  have hP : va_P D vwCl [(h0, .inr (6, [.ref h1, .int 11])), (h1, .inl (cI, 1600, .inl f_323))] H := hP
                  have hD : va_D A [(h0, .inr (6, [.ref h1, .int 11])), (h1, .inl (cI, 1600, .inl f_323))] := hD
                  refine lv_aload_n hx hb dX7_append_33 rfl (lv_at hl 1 rfl) ?_
                  refine lv_dup hx hb dX7_append_34 rfl ?_
                  refine va_get (D := D) (ci := 6) (v := .int 11) (C := RX7) (T := TX7) (N := 2) hx hb hts inw_X7_append_k2_X7 hown hK hP 0 rfl rfl 1 (by decide) (hts (.fieldLink RX7 15 "EarTable$Tape" "length" "I") (by decide +kernel)) (fun _ h9 => h9) rfl dX7_append_35 ?_
                  refine lv_iconst (v := 1) hx hb dX7_append_38 (by decide) ?_
                  refine lv_iadd hx hb dX7_append_39 ?_
                  refine kn_top (y := 12) (by decide) ?_
                  refine va_put (D := D) (ci := 6) (v := .int 12) (ty := .int) (C := RX7) (T := TX7) (N := 2) hx hb hts inw_X7_append_k2_X7 tyX7 tyX7_ok nmX7 hown hK hP hD hS 0 rfl rfl 1 (by decide) (hts (.fieldLink RX7 15 "EarTable$Tape" "length" "I") (by decide +kernel)) (fun _ h9 => h9) rfl (by decide +kernel) rfl rfl (Nat.le_of_ble_eq_true rfl) dX7_append_40 (fun H locs hP hD hS => ?_)
                  have hP : va_P D vwCl [(h0, .inr (6, [.ref h1, .int 12])), (h1, .inl (cI, 1600, .inl f_323))] H := hP
                  have hD : va_D A [(h0, .inr (6, [.ref h1, .int 12])), (h1, .inl (cI, 1600, .inl f_323))] := hD
                  refine lv_iinc (v := (-8)) (lv' := [(2, .int (-8)), (0, .ref h0), (1, .int p1)]) hx hb dX7_append_43 hl (k := 0) rfl (by decide) (by decide) rfl (fun ls hl => ?_)
                  refine lv_goto (tgt := 3) hx hb dX7_append_46 (by decide) ?_
                  refine lv_iload_n hx hb dX7_append_3 rfl (lv_at hl 0 rfl) ?_
                  refine lv_if_lt (tgt := 49) hx hb dX7_append_4 (by decide) (fun c_324 => ?_) (fun c_324 => ?_)
                  · skip
                    have hP9 := hP.sub (ws' := [(h0, .inr (6, [.ref h1, .int 12])), (h1, .inl (cI, 1600, .inl f_323))]) [0, 1] rfl
                    have hD9 := hD.sub (ws' := [(h0, .inr (6, [.ref h1, .int 12])), (h1, .inl (cI, 1600, .inl f_323))]) [0, 1] (by decide) rfl
                    exact W.vret hx hb hr (fun t ht hW => ⟨⟨f_323, rfl, trivial, by rw [ht]; exact hP9, hD9⟩, hS.F ht⟩) hS.2.2 dX7_append_49
                  · skip
                    exact absurd (by decide) c_324
def o_X7_append_k3 : List Cond := [.fieldLink RX7 15 "EarTable$Tape" "length" "I", .fieldLink RX7 9 "EarTable$Tape" "bytes" "[I"]
def u_X7_append_k3 : List Cond := .code yX7_append cX7_append 3 none :: (o_X7_append_k3 ++ (wsX70 ++ ([] : List Cond)))
theorem inw_X7_append_k3_X7 : ∀ w ∈ wsX70, w ∈ u_X7_append_k3 := fun w h => List.mem_cons_of_mem _ (List.mem_append_right _ (List.mem_append_left _ h))
set_option maxRecDepth 20000 in
theorem good_X7_append_k3 : u_X7_append_k3.all goodWord = true := by decide +kernel
set_option maxRecDepth 20000 in
theorem in_X7_append_k3 : ∀ w ∈ u_X7_append_k3, w ∈ lw_tbl := ma_cons inc_X7_append (ma_app (ma_pos o_X7_append_k3 [96, 94] (by decide +kernel)) (ma_app inb_X7 ma_nil))
set_option maxHeartbeats 4000000 in
set_option maxRecDepth 100000 in
theorem c_X7_append_k3 (l : Launch) (D : va_G) (cI cJ cZ cB : ClassId) (sz : Nat) (h0 : Nat) (h1 : Nat) (f0 : Nat → Int32) (p1 : Int32) : Met l yX7_append u_X7_append_k3 ({ frames := 0, cells := 0, slots := 0, locals := 0 }) (va_Pc [.ref h0, .int p1] (kPre D cI cJ cZ cB [(h0, .inr (6, [.ref h1, .int 12])), (h1, .inl (cI, 1600, .inl f0))] sz)) (va_Qv (fun (_ : (Nat → Int32)) => True) (kB D (fun (u : (Nat → Int32)) => [(h0, .inr (6, [.ref h1, .int 16])), (h1, .inl (cI, 1600, .inl u))]) (va_A [(h0, .inr (6, [.ref h1, .int 12])), (h1, .inl (cI, 1600, .inl f0))] sz)) (va_A [(h0, .inr (6, [.ref h1, .int 12])), (h1, .inl (cI, 1600, .inl f0))] sz)) 0 0 (va_A [(h0, .inr (6, [.ref h1, .int 12])), (h1, .inl (cI, 1600, .inl f0))] sz) := by
  refine Met.ofW (cc := cX7_append) (maxL := 3) (ret := none) (by decide) rfl ?_
  intro p e s m args below meth c s₁ B hml hv
  obtain ⟨rfl, hsz, hP, hK, hN, hD0⟩ := hv
  have hx := B.exec
  have hb := B.bytes
  have hr := B.returns
  have hts := atoms_spec (ws := u_X7_append_k3) B.pre
  have hown : s.vm.findClass RX7 = some m.cls := findClass_of_methodNamed B.named
  have hlocks := B.notSynchronized
  subst hsz
  have hD := hD0.self (sz := s.heap.size)
  generalize hAe : va_A [(h0, .inr (6, [.ref h1, .int 12])), (h1, .inl (cI, 1600, .inl f0))] s.heap.size = A at hD ⊢
  have hA : ∀ q : Nat, s.heap.size ≤ q → A q := fun q h => by rw [← hAe]; exact Or.inr h
  have hS : va_S A s.heap s.heap [] := va_S.rf
  have hP : va_P D vwCl [(h0, .inr (6, [.ref h1, .int 12])), (h1, .inl (cI, 1600, .inl f0))] s.heap := hP
  have hl := lv_entry ([.ref h0, .int p1]) (n := 3) (Nat.le_of_ble_eq_true rfl)
  rw [lg_entry_eq]
  generalize (lg_sl ([.ref h0, .int p1]) ++ List.replicate (3 - (lg_sl ([.ref h0, .int p1])).length) Slot.unset).toArray = ls at hl ⊢
  have hl : lv_has ls 3 [(0, .ref h0), (1, .int p1)] := hl
  obtain ⟨H, hHe⟩ : ∃ H, s.heap = H := ⟨_, rfl⟩
  have hP : va_P D vwCl [(h0, .inr (6, [.ref h1, .int 12])), (h1, .inl (cI, 1600, .inl f0))] H := by rw [← hHe]; exact hP
  have hS : va_S A s.heap H [] := by rw [← hHe]; exact hS
  refine kn_heap hHe ?_
  refine lv_bipush (v := 24) hx hb dX7_append_0 (by decide) ?_
  refine lv_istore_n (lv' := [(2, .int 24), (0, .ref h0), (1, .int p1)]) hx hb dX7_append_2 rfl hl (by decide) rfl (fun ls hl => ?_)
  refine lv_iload_n hx hb dX7_append_3 rfl (lv_at hl 0 rfl) ?_
  refine lv_if_lt (tgt := 49) hx hb dX7_append_4 (by decide) (fun c_327 => ?_) (fun c_327 => ?_)
  · skip
    exact absurd c_327 (by decide)
  · skip
    refine lv_aload_n hx hb dX7_append_7 rfl (lv_at hl 1 rfl) ?_
    refine va_get (D := D) (ci := 6) (v := .int 12) (C := RX7) (T := TX7) (N := 2) hx hb hts inw_X7_append_k3_X7 hown hK hP 0 rfl rfl 1 (by decide) (hts (.fieldLink RX7 15 "EarTable$Tape" "length" "I") (by decide +kernel)) (fun _ h9 => h9) rfl dX7_append_8 ?_
    refine lv_sipush (v := 1600) hx hb dX7_append_11 (by decide) ?_
    refine lv_icmp_ge (tgt := 49) hx hb dX7_append_14 (by decide) (fun c_328 => ?_) (fun c_328 => ?_)
    · skip
      exact absurd c_328 (by decide)
    · skip
      refine lv_aload_n hx hb dX7_append_17 rfl (lv_at hl 1 rfl) ?_
      refine va_get (D := D) (ci := 6) (v := .ref h1) (C := RX7) (T := TX7) (N := 2) hx hb hts inw_X7_append_k3_X7 hown hK hP 0 rfl rfl 0 (by decide) (hts (.fieldLink RX7 9 "EarTable$Tape" "bytes" "[I") (by decide +kernel)) (fun _ h9 => h9) rfl dX7_append_18 ?_
      refine lv_aload_n hx hb dX7_append_21 rfl (lv_at hl 1 rfl) ?_
      refine va_get (D := D) (ci := 6) (v := .int 12) (C := RX7) (T := TX7) (N := 2) hx hb hts inw_X7_append_k3_X7 hown hK hP 0 rfl rfl 1 (by decide) (hts (.fieldLink RX7 15 "EarTable$Tape" "length" "I") (by decide +kernel)) (fun _ h9 => h9) rfl dX7_append_22 ?_
      refine lv_iload_n hx hb dX7_append_25 rfl (lv_at hl 2 rfl) ?_
      refine lv_iload_n hx hb dX7_append_26 rfl (lv_at hl 0 rfl) ?_
      refine lv_iushr hx hb dX7_append_27 rfl ?_
      refine lv_topi (fun z_329 _ => ?_)
      refine lv_sipush (v := 255) hx hb dX7_append_28 (by decide) ?_
      refine lv_iand hx hb dX7_append_31 ?_
      refine lv_topi (fun z_330 _ => ?_)
      refine kn_iast hx hb hK hP hD hS 1 0 rfl rfl (kn_in (by decide)) dX7_append_32 (fun f_331 H locs hP hD hS => ?_)
      have hP : va_P D vwCl [(h0, .inr (6, [.ref h1, .int 12])), (h1, .inl (cI, 1600, .inl f_331))] H := hP
      have hD : va_D A [(h0, .inr (6, [.ref h1, .int 12])), (h1, .inl (cI, 1600, .inl f_331))] := hD
      refine lv_aload_n hx hb dX7_append_33 rfl (lv_at hl 1 rfl) ?_
      refine lv_dup hx hb dX7_append_34 rfl ?_
      refine va_get (D := D) (ci := 6) (v := .int 12) (C := RX7) (T := TX7) (N := 2) hx hb hts inw_X7_append_k3_X7 hown hK hP 0 rfl rfl 1 (by decide) (hts (.fieldLink RX7 15 "EarTable$Tape" "length" "I") (by decide +kernel)) (fun _ h9 => h9) rfl dX7_append_35 ?_
      refine lv_iconst (v := 1) hx hb dX7_append_38 (by decide) ?_
      refine lv_iadd hx hb dX7_append_39 ?_
      refine kn_top (y := 13) (by decide) ?_
      refine va_put (D := D) (ci := 6) (v := .int 13) (ty := .int) (C := RX7) (T := TX7) (N := 2) hx hb hts inw_X7_append_k3_X7 tyX7 tyX7_ok nmX7 hown hK hP hD hS 0 rfl rfl 1 (by decide) (hts (.fieldLink RX7 15 "EarTable$Tape" "length" "I") (by decide +kernel)) (fun _ h9 => h9) rfl (by decide +kernel) rfl rfl (Nat.le_of_ble_eq_true rfl) dX7_append_40 (fun H locs hP hD hS => ?_)
      have hP : va_P D vwCl [(h0, .inr (6, [.ref h1, .int 13])), (h1, .inl (cI, 1600, .inl f_331))] H := hP
      have hD : va_D A [(h0, .inr (6, [.ref h1, .int 13])), (h1, .inl (cI, 1600, .inl f_331))] := hD
      refine lv_iinc (v := 16) (lv' := [(2, .int 16), (0, .ref h0), (1, .int p1)]) hx hb dX7_append_43 hl (k := 0) rfl (by decide) (by decide) rfl (fun ls hl => ?_)
      refine lv_goto (tgt := 3) hx hb dX7_append_46 (by decide) ?_
      refine lv_iload_n hx hb dX7_append_3 rfl (lv_at hl 0 rfl) ?_
      refine lv_if_lt (tgt := 49) hx hb dX7_append_4 (by decide) (fun c_332 => ?_) (fun c_332 => ?_)
      · skip
        exact absurd c_332 (by decide)
      · skip
        refine lv_aload_n hx hb dX7_append_7 rfl (lv_at hl 1 rfl) ?_
        refine va_get (D := D) (ci := 6) (v := .int 13) (C := RX7) (T := TX7) (N := 2) hx hb hts inw_X7_append_k3_X7 hown hK hP 0 rfl rfl 1 (by decide) (hts (.fieldLink RX7 15 "EarTable$Tape" "length" "I") (by decide +kernel)) (fun _ h9 => h9) rfl dX7_append_8 ?_
        refine lv_sipush (v := 1600) hx hb dX7_append_11 (by decide) ?_
        refine lv_icmp_ge (tgt := 49) hx hb dX7_append_14 (by decide) (fun c_333 => ?_) (fun c_333 => ?_)
        · skip
          exact absurd c_333 (by decide)
        · skip
          refine lv_aload_n hx hb dX7_append_17 rfl (lv_at hl 1 rfl) ?_
          refine va_get (D := D) (ci := 6) (v := .ref h1) (C := RX7) (T := TX7) (N := 2) hx hb hts inw_X7_append_k3_X7 hown hK hP 0 rfl rfl 0 (by decide) (hts (.fieldLink RX7 9 "EarTable$Tape" "bytes" "[I") (by decide +kernel)) (fun _ h9 => h9) rfl dX7_append_18 ?_
          refine lv_aload_n hx hb dX7_append_21 rfl (lv_at hl 1 rfl) ?_
          refine va_get (D := D) (ci := 6) (v := .int 13) (C := RX7) (T := TX7) (N := 2) hx hb hts inw_X7_append_k3_X7 hown hK hP 0 rfl rfl 1 (by decide) (hts (.fieldLink RX7 15 "EarTable$Tape" "length" "I") (by decide +kernel)) (fun _ h9 => h9) rfl dX7_append_22 ?_
          refine lv_iload_n hx hb dX7_append_25 rfl (lv_at hl 2 rfl) ?_
          refine lv_iload_n hx hb dX7_append_26 rfl (lv_at hl 0 rfl) ?_
          refine lv_iushr hx hb dX7_append_27 rfl ?_
          refine lv_topi (fun z_334 _ => ?_)
          refine lv_sipush (v := 255) hx hb dX7_append_28 (by decide) ?_
          refine lv_iand hx hb dX7_append_31 ?_
          refine lv_topi (fun z_335 _ => ?_)
          refine kn_iast hx hb hK hP hD hS 1 0 rfl rfl (kn_in (by decide)) dX7_append_32 (fun f_336 H locs hP hD hS => ?_)
          have hP : va_P D vwCl [(h0, .inr (6, [.ref h1, .int 13])), (h1, .inl (cI, 1600, .inl f_336))] H := hP
          have hD : va_D A [(h0, .inr (6, [.ref h1, .int 13])), (h1, .inl (cI, 1600, .inl f_336))] := hD
          refine lv_aload_n hx hb dX7_append_33 rfl (lv_at hl 1 rfl) ?_
          refine lv_dup hx hb dX7_append_34 rfl ?_
          refine va_get (D := D) (ci := 6) (v := .int 13) (C := RX7) (T := TX7) (N := 2) hx hb hts inw_X7_append_k3_X7 hown hK hP 0 rfl rfl 1 (by decide) (hts (.fieldLink RX7 15 "EarTable$Tape" "length" "I") (by decide +kernel)) (fun _ h9 => h9) rfl dX7_append_35 ?_
          refine lv_iconst (v := 1) hx hb dX7_append_38 (by decide) ?_
          refine lv_iadd hx hb dX7_append_39 ?_
          refine kn_top (y := 14) (by decide) ?_
          refine va_put (D := D) (ci := 6) (v := .int 14) (ty := .int) (C := RX7) (T := TX7) (N := 2) hx hb hts inw_X7_append_k3_X7 tyX7 tyX7_ok nmX7 hown hK hP hD hS 0 rfl rfl 1 (by decide) (hts (.fieldLink RX7 15 "EarTable$Tape" "length" "I") (by decide +kernel)) (fun _ h9 => h9) rfl (by decide +kernel) rfl rfl (Nat.le_of_ble_eq_true rfl) dX7_append_40 (fun H locs hP hD hS => ?_)
          have hP : va_P D vwCl [(h0, .inr (6, [.ref h1, .int 14])), (h1, .inl (cI, 1600, .inl f_336))] H := hP
          have hD : va_D A [(h0, .inr (6, [.ref h1, .int 14])), (h1, .inl (cI, 1600, .inl f_336))] := hD
          refine lv_iinc (v := 8) (lv' := [(2, .int 8), (0, .ref h0), (1, .int p1)]) hx hb dX7_append_43 hl (k := 0) rfl (by decide) (by decide) rfl (fun ls hl => ?_)
          refine lv_goto (tgt := 3) hx hb dX7_append_46 (by decide) ?_
          refine lv_iload_n hx hb dX7_append_3 rfl (lv_at hl 0 rfl) ?_
          refine lv_if_lt (tgt := 49) hx hb dX7_append_4 (by decide) (fun c_337 => ?_) (fun c_337 => ?_)
          · skip
            exact absurd c_337 (by decide)
          · skip
            refine lv_aload_n hx hb dX7_append_7 rfl (lv_at hl 1 rfl) ?_
            refine va_get (D := D) (ci := 6) (v := .int 14) (C := RX7) (T := TX7) (N := 2) hx hb hts inw_X7_append_k3_X7 hown hK hP 0 rfl rfl 1 (by decide) (hts (.fieldLink RX7 15 "EarTable$Tape" "length" "I") (by decide +kernel)) (fun _ h9 => h9) rfl dX7_append_8 ?_
            refine lv_sipush (v := 1600) hx hb dX7_append_11 (by decide) ?_
            refine lv_icmp_ge (tgt := 49) hx hb dX7_append_14 (by decide) (fun c_338 => ?_) (fun c_338 => ?_)
            · skip
              exact absurd c_338 (by decide)
            · skip
              refine lv_aload_n hx hb dX7_append_17 rfl (lv_at hl 1 rfl) ?_
              refine va_get (D := D) (ci := 6) (v := .ref h1) (C := RX7) (T := TX7) (N := 2) hx hb hts inw_X7_append_k3_X7 hown hK hP 0 rfl rfl 0 (by decide) (hts (.fieldLink RX7 9 "EarTable$Tape" "bytes" "[I") (by decide +kernel)) (fun _ h9 => h9) rfl dX7_append_18 ?_
              refine lv_aload_n hx hb dX7_append_21 rfl (lv_at hl 1 rfl) ?_
              refine va_get (D := D) (ci := 6) (v := .int 14) (C := RX7) (T := TX7) (N := 2) hx hb hts inw_X7_append_k3_X7 hown hK hP 0 rfl rfl 1 (by decide) (hts (.fieldLink RX7 15 "EarTable$Tape" "length" "I") (by decide +kernel)) (fun _ h9 => h9) rfl dX7_append_22 ?_
              refine lv_iload_n hx hb dX7_append_25 rfl (lv_at hl 2 rfl) ?_
              refine lv_iload_n hx hb dX7_append_26 rfl (lv_at hl 0 rfl) ?_
              refine lv_iushr hx hb dX7_append_27 rfl ?_
              refine lv_topi (fun z_339 _ => ?_)
              refine lv_sipush (v := 255) hx hb dX7_append_28 (by decide) ?_
              refine lv_iand hx hb dX7_append_31 ?_
              refine lv_topi (fun z_340 _ => ?_)
              refine kn_iast hx hb hK hP hD hS 1 0 rfl rfl (kn_in (by decide)) dX7_append_32 (fun f_341 H locs hP hD hS => ?_)
              have hP : va_P D vwCl [(h0, .inr (6, [.ref h1, .int 14])), (h1, .inl (cI, 1600, .inl f_341))] H := hP
              have hD : va_D A [(h0, .inr (6, [.ref h1, .int 14])), (h1, .inl (cI, 1600, .inl f_341))] := hD
              refine lv_aload_n hx hb dX7_append_33 rfl (lv_at hl 1 rfl) ?_
              refine lv_dup hx hb dX7_append_34 rfl ?_
              refine va_get (D := D) (ci := 6) (v := .int 14) (C := RX7) (T := TX7) (N := 2) hx hb hts inw_X7_append_k3_X7 hown hK hP 0 rfl rfl 1 (by decide) (hts (.fieldLink RX7 15 "EarTable$Tape" "length" "I") (by decide +kernel)) (fun _ h9 => h9) rfl dX7_append_35 ?_
              refine lv_iconst (v := 1) hx hb dX7_append_38 (by decide) ?_
              refine lv_iadd hx hb dX7_append_39 ?_
              refine kn_top (y := 15) (by decide) ?_
              refine va_put (D := D) (ci := 6) (v := .int 15) (ty := .int) (C := RX7) (T := TX7) (N := 2) hx hb hts inw_X7_append_k3_X7 tyX7 tyX7_ok nmX7 hown hK hP hD hS 0 rfl rfl 1 (by decide) (hts (.fieldLink RX7 15 "EarTable$Tape" "length" "I") (by decide +kernel)) (fun _ h9 => h9) rfl (by decide +kernel) rfl rfl (Nat.le_of_ble_eq_true rfl) dX7_append_40 (fun H locs hP hD hS => ?_)
              have hP : va_P D vwCl [(h0, .inr (6, [.ref h1, .int 15])), (h1, .inl (cI, 1600, .inl f_341))] H := hP
              have hD : va_D A [(h0, .inr (6, [.ref h1, .int 15])), (h1, .inl (cI, 1600, .inl f_341))] := hD
              refine lv_iinc (v := 0) (lv' := [(2, .int 0), (0, .ref h0), (1, .int p1)]) hx hb dX7_append_43 hl (k := 0) rfl (by decide) (by decide) rfl (fun ls hl => ?_)
              refine lv_goto (tgt := 3) hx hb dX7_append_46 (by decide) ?_
              refine lv_iload_n hx hb dX7_append_3 rfl (lv_at hl 0 rfl) ?_
              refine lv_if_lt (tgt := 49) hx hb dX7_append_4 (by decide) (fun c_342 => ?_) (fun c_342 => ?_)
              · skip
                exact absurd c_342 (by decide)
              · skip
                refine lv_aload_n hx hb dX7_append_7 rfl (lv_at hl 1 rfl) ?_
                refine va_get (D := D) (ci := 6) (v := .int 15) (C := RX7) (T := TX7) (N := 2) hx hb hts inw_X7_append_k3_X7 hown hK hP 0 rfl rfl 1 (by decide) (hts (.fieldLink RX7 15 "EarTable$Tape" "length" "I") (by decide +kernel)) (fun _ h9 => h9) rfl dX7_append_8 ?_
                refine lv_sipush (v := 1600) hx hb dX7_append_11 (by decide) ?_
                refine lv_icmp_ge (tgt := 49) hx hb dX7_append_14 (by decide) (fun c_343 => ?_) (fun c_343 => ?_)
                · skip
                  exact absurd c_343 (by decide)
                · skip
                  refine lv_aload_n hx hb dX7_append_17 rfl (lv_at hl 1 rfl) ?_
                  refine va_get (D := D) (ci := 6) (v := .ref h1) (C := RX7) (T := TX7) (N := 2) hx hb hts inw_X7_append_k3_X7 hown hK hP 0 rfl rfl 0 (by decide) (hts (.fieldLink RX7 9 "EarTable$Tape" "bytes" "[I") (by decide +kernel)) (fun _ h9 => h9) rfl dX7_append_18 ?_
                  refine lv_aload_n hx hb dX7_append_21 rfl (lv_at hl 1 rfl) ?_
                  refine va_get (D := D) (ci := 6) (v := .int 15) (C := RX7) (T := TX7) (N := 2) hx hb hts inw_X7_append_k3_X7 hown hK hP 0 rfl rfl 1 (by decide) (hts (.fieldLink RX7 15 "EarTable$Tape" "length" "I") (by decide +kernel)) (fun _ h9 => h9) rfl dX7_append_22 ?_
                  refine lv_iload_n hx hb dX7_append_25 rfl (lv_at hl 2 rfl) ?_
                  refine lv_iload_n hx hb dX7_append_26 rfl (lv_at hl 0 rfl) ?_
                  refine lv_iushr hx hb dX7_append_27 rfl ?_
                  refine lv_topi (fun z_344 _ => ?_)
                  refine lv_sipush (v := 255) hx hb dX7_append_28 (by decide) ?_
                  refine lv_iand hx hb dX7_append_31 ?_
                  refine lv_topi (fun z_345 _ => ?_)
                  refine kn_iast hx hb hK hP hD hS 1 0 rfl rfl (kn_in (by decide)) dX7_append_32 (fun f_346 H locs hP hD hS => ?_)
                  have hP : va_P D vwCl [(h0, .inr (6, [.ref h1, .int 15])), (h1, .inl (cI, 1600, .inl f_346))] H := hP
                  have hD : va_D A [(h0, .inr (6, [.ref h1, .int 15])), (h1, .inl (cI, 1600, .inl f_346))] := hD
                  refine lv_aload_n hx hb dX7_append_33 rfl (lv_at hl 1 rfl) ?_
                  refine lv_dup hx hb dX7_append_34 rfl ?_
                  refine va_get (D := D) (ci := 6) (v := .int 15) (C := RX7) (T := TX7) (N := 2) hx hb hts inw_X7_append_k3_X7 hown hK hP 0 rfl rfl 1 (by decide) (hts (.fieldLink RX7 15 "EarTable$Tape" "length" "I") (by decide +kernel)) (fun _ h9 => h9) rfl dX7_append_35 ?_
                  refine lv_iconst (v := 1) hx hb dX7_append_38 (by decide) ?_
                  refine lv_iadd hx hb dX7_append_39 ?_
                  refine kn_top (y := 16) (by decide) ?_
                  refine va_put (D := D) (ci := 6) (v := .int 16) (ty := .int) (C := RX7) (T := TX7) (N := 2) hx hb hts inw_X7_append_k3_X7 tyX7 tyX7_ok nmX7 hown hK hP hD hS 0 rfl rfl 1 (by decide) (hts (.fieldLink RX7 15 "EarTable$Tape" "length" "I") (by decide +kernel)) (fun _ h9 => h9) rfl (by decide +kernel) rfl rfl (Nat.le_of_ble_eq_true rfl) dX7_append_40 (fun H locs hP hD hS => ?_)
                  have hP : va_P D vwCl [(h0, .inr (6, [.ref h1, .int 16])), (h1, .inl (cI, 1600, .inl f_346))] H := hP
                  have hD : va_D A [(h0, .inr (6, [.ref h1, .int 16])), (h1, .inl (cI, 1600, .inl f_346))] := hD
                  refine lv_iinc (v := (-8)) (lv' := [(2, .int (-8)), (0, .ref h0), (1, .int p1)]) hx hb dX7_append_43 hl (k := 0) rfl (by decide) (by decide) rfl (fun ls hl => ?_)
                  refine lv_goto (tgt := 3) hx hb dX7_append_46 (by decide) ?_
                  refine lv_iload_n hx hb dX7_append_3 rfl (lv_at hl 0 rfl) ?_
                  refine lv_if_lt (tgt := 49) hx hb dX7_append_4 (by decide) (fun c_347 => ?_) (fun c_347 => ?_)
                  · skip
                    have hP9 := hP.sub (ws' := [(h0, .inr (6, [.ref h1, .int 16])), (h1, .inl (cI, 1600, .inl f_346))]) [0, 1] rfl
                    have hD9 := hD.sub (ws' := [(h0, .inr (6, [.ref h1, .int 16])), (h1, .inl (cI, 1600, .inl f_346))]) [0, 1] (by decide) rfl
                    exact W.vret hx hb hr (fun t ht hW => ⟨⟨f_346, rfl, trivial, by rw [ht]; exact hP9, hD9⟩, hS.F ht⟩) hS.2.2 dX7_append_49
                  · skip
                    exact absurd (by decide) c_347
def o_X7_append_k4 : List Cond := [.fieldLink RX7 15 "EarTable$Tape" "length" "I", .fieldLink RX7 9 "EarTable$Tape" "bytes" "[I"]
def u_X7_append_k4 : List Cond := .code yX7_append cX7_append 3 none :: (o_X7_append_k4 ++ (wsX70 ++ ([] : List Cond)))
theorem inw_X7_append_k4_X7 : ∀ w ∈ wsX70, w ∈ u_X7_append_k4 := fun w h => List.mem_cons_of_mem _ (List.mem_append_right _ (List.mem_append_left _ h))
set_option maxRecDepth 20000 in
theorem good_X7_append_k4 : u_X7_append_k4.all goodWord = true := by decide +kernel
set_option maxRecDepth 20000 in
theorem in_X7_append_k4 : ∀ w ∈ u_X7_append_k4, w ∈ lw_tbl := ma_cons inc_X7_append (ma_app (ma_pos o_X7_append_k4 [96, 94] (by decide +kernel)) (ma_app inb_X7 ma_nil))
set_option maxHeartbeats 4000000 in
set_option maxRecDepth 100000 in
theorem c_X7_append_k4 (l : Launch) (D : va_G) (cI cJ cZ cB : ClassId) (sz : Nat) (h0 : Nat) (h1 : Nat) (f0 : Nat → Int32) (p1 : Int32) : Met l yX7_append u_X7_append_k4 ({ frames := 0, cells := 0, slots := 0, locals := 0 }) (va_Pc [.ref h0, .int p1] (kPre D cI cJ cZ cB [(h0, .inr (6, [.ref h1, .int 16])), (h1, .inl (cI, 1600, .inl f0))] sz)) (va_Qv (fun (_ : (Nat → Int32)) => True) (kB D (fun (u : (Nat → Int32)) => [(h0, .inr (6, [.ref h1, .int 20])), (h1, .inl (cI, 1600, .inl u))]) (va_A [(h0, .inr (6, [.ref h1, .int 16])), (h1, .inl (cI, 1600, .inl f0))] sz)) (va_A [(h0, .inr (6, [.ref h1, .int 16])), (h1, .inl (cI, 1600, .inl f0))] sz)) 0 0 (va_A [(h0, .inr (6, [.ref h1, .int 16])), (h1, .inl (cI, 1600, .inl f0))] sz) := by
  refine Met.ofW (cc := cX7_append) (maxL := 3) (ret := none) (by decide) rfl ?_
  intro p e s m args below meth c s₁ B hml hv
  obtain ⟨rfl, hsz, hP, hK, hN, hD0⟩ := hv
  have hx := B.exec
  have hb := B.bytes
  have hr := B.returns
  have hts := atoms_spec (ws := u_X7_append_k4) B.pre
  have hown : s.vm.findClass RX7 = some m.cls := findClass_of_methodNamed B.named
  have hlocks := B.notSynchronized
  subst hsz
  have hD := hD0.self (sz := s.heap.size)
  generalize hAe : va_A [(h0, .inr (6, [.ref h1, .int 16])), (h1, .inl (cI, 1600, .inl f0))] s.heap.size = A at hD ⊢
  have hA : ∀ q : Nat, s.heap.size ≤ q → A q := fun q h => by rw [← hAe]; exact Or.inr h
  have hS : va_S A s.heap s.heap [] := va_S.rf
  have hP : va_P D vwCl [(h0, .inr (6, [.ref h1, .int 16])), (h1, .inl (cI, 1600, .inl f0))] s.heap := hP
  have hl := lv_entry ([.ref h0, .int p1]) (n := 3) (Nat.le_of_ble_eq_true rfl)
  rw [lg_entry_eq]
  generalize (lg_sl ([.ref h0, .int p1]) ++ List.replicate (3 - (lg_sl ([.ref h0, .int p1])).length) Slot.unset).toArray = ls at hl ⊢
  have hl : lv_has ls 3 [(0, .ref h0), (1, .int p1)] := hl
  obtain ⟨H, hHe⟩ : ∃ H, s.heap = H := ⟨_, rfl⟩
  have hP : va_P D vwCl [(h0, .inr (6, [.ref h1, .int 16])), (h1, .inl (cI, 1600, .inl f0))] H := by rw [← hHe]; exact hP
  have hS : va_S A s.heap H [] := by rw [← hHe]; exact hS
  refine kn_heap hHe ?_
  refine lv_bipush (v := 24) hx hb dX7_append_0 (by decide) ?_
  refine lv_istore_n (lv' := [(2, .int 24), (0, .ref h0), (1, .int p1)]) hx hb dX7_append_2 rfl hl (by decide) rfl (fun ls hl => ?_)
  refine lv_iload_n hx hb dX7_append_3 rfl (lv_at hl 0 rfl) ?_
  refine lv_if_lt (tgt := 49) hx hb dX7_append_4 (by decide) (fun c_350 => ?_) (fun c_350 => ?_)
  · skip
    exact absurd c_350 (by decide)
  · skip
    refine lv_aload_n hx hb dX7_append_7 rfl (lv_at hl 1 rfl) ?_
    refine va_get (D := D) (ci := 6) (v := .int 16) (C := RX7) (T := TX7) (N := 2) hx hb hts inw_X7_append_k4_X7 hown hK hP 0 rfl rfl 1 (by decide) (hts (.fieldLink RX7 15 "EarTable$Tape" "length" "I") (by decide +kernel)) (fun _ h9 => h9) rfl dX7_append_8 ?_
    refine lv_sipush (v := 1600) hx hb dX7_append_11 (by decide) ?_
    refine lv_icmp_ge (tgt := 49) hx hb dX7_append_14 (by decide) (fun c_351 => ?_) (fun c_351 => ?_)
    · skip
      exact absurd c_351 (by decide)
    · skip
      refine lv_aload_n hx hb dX7_append_17 rfl (lv_at hl 1 rfl) ?_
      refine va_get (D := D) (ci := 6) (v := .ref h1) (C := RX7) (T := TX7) (N := 2) hx hb hts inw_X7_append_k4_X7 hown hK hP 0 rfl rfl 0 (by decide) (hts (.fieldLink RX7 9 "EarTable$Tape" "bytes" "[I") (by decide +kernel)) (fun _ h9 => h9) rfl dX7_append_18 ?_
      refine lv_aload_n hx hb dX7_append_21 rfl (lv_at hl 1 rfl) ?_
      refine va_get (D := D) (ci := 6) (v := .int 16) (C := RX7) (T := TX7) (N := 2) hx hb hts inw_X7_append_k4_X7 hown hK hP 0 rfl rfl 1 (by decide) (hts (.fieldLink RX7 15 "EarTable$Tape" "length" "I") (by decide +kernel)) (fun _ h9 => h9) rfl dX7_append_22 ?_
      refine lv_iload_n hx hb dX7_append_25 rfl (lv_at hl 2 rfl) ?_
      refine lv_iload_n hx hb dX7_append_26 rfl (lv_at hl 0 rfl) ?_
      refine lv_iushr hx hb dX7_append_27 rfl ?_
      refine lv_topi (fun z_352 _ => ?_)
      refine lv_sipush (v := 255) hx hb dX7_append_28 (by decide) ?_
      refine lv_iand hx hb dX7_append_31 ?_
      refine lv_topi (fun z_353 _ => ?_)
      refine kn_iast hx hb hK hP hD hS 1 0 rfl rfl (kn_in (by decide)) dX7_append_32 (fun f_354 H locs hP hD hS => ?_)
      have hP : va_P D vwCl [(h0, .inr (6, [.ref h1, .int 16])), (h1, .inl (cI, 1600, .inl f_354))] H := hP
      have hD : va_D A [(h0, .inr (6, [.ref h1, .int 16])), (h1, .inl (cI, 1600, .inl f_354))] := hD
      refine lv_aload_n hx hb dX7_append_33 rfl (lv_at hl 1 rfl) ?_
      refine lv_dup hx hb dX7_append_34 rfl ?_
      refine va_get (D := D) (ci := 6) (v := .int 16) (C := RX7) (T := TX7) (N := 2) hx hb hts inw_X7_append_k4_X7 hown hK hP 0 rfl rfl 1 (by decide) (hts (.fieldLink RX7 15 "EarTable$Tape" "length" "I") (by decide +kernel)) (fun _ h9 => h9) rfl dX7_append_35 ?_
      refine lv_iconst (v := 1) hx hb dX7_append_38 (by decide) ?_
      refine lv_iadd hx hb dX7_append_39 ?_
      refine kn_top (y := 17) (by decide) ?_
      refine va_put (D := D) (ci := 6) (v := .int 17) (ty := .int) (C := RX7) (T := TX7) (N := 2) hx hb hts inw_X7_append_k4_X7 tyX7 tyX7_ok nmX7 hown hK hP hD hS 0 rfl rfl 1 (by decide) (hts (.fieldLink RX7 15 "EarTable$Tape" "length" "I") (by decide +kernel)) (fun _ h9 => h9) rfl (by decide +kernel) rfl rfl (Nat.le_of_ble_eq_true rfl) dX7_append_40 (fun H locs hP hD hS => ?_)
      have hP : va_P D vwCl [(h0, .inr (6, [.ref h1, .int 17])), (h1, .inl (cI, 1600, .inl f_354))] H := hP
      have hD : va_D A [(h0, .inr (6, [.ref h1, .int 17])), (h1, .inl (cI, 1600, .inl f_354))] := hD
      refine lv_iinc (v := 16) (lv' := [(2, .int 16), (0, .ref h0), (1, .int p1)]) hx hb dX7_append_43 hl (k := 0) rfl (by decide) (by decide) rfl (fun ls hl => ?_)
      refine lv_goto (tgt := 3) hx hb dX7_append_46 (by decide) ?_
      refine lv_iload_n hx hb dX7_append_3 rfl (lv_at hl 0 rfl) ?_
      refine lv_if_lt (tgt := 49) hx hb dX7_append_4 (by decide) (fun c_355 => ?_) (fun c_355 => ?_)
      · skip
        exact absurd c_355 (by decide)
      · skip
        refine lv_aload_n hx hb dX7_append_7 rfl (lv_at hl 1 rfl) ?_
        refine va_get (D := D) (ci := 6) (v := .int 17) (C := RX7) (T := TX7) (N := 2) hx hb hts inw_X7_append_k4_X7 hown hK hP 0 rfl rfl 1 (by decide) (hts (.fieldLink RX7 15 "EarTable$Tape" "length" "I") (by decide +kernel)) (fun _ h9 => h9) rfl dX7_append_8 ?_
        refine lv_sipush (v := 1600) hx hb dX7_append_11 (by decide) ?_
        refine lv_icmp_ge (tgt := 49) hx hb dX7_append_14 (by decide) (fun c_356 => ?_) (fun c_356 => ?_)
        · skip
          exact absurd c_356 (by decide)
        · skip
          refine lv_aload_n hx hb dX7_append_17 rfl (lv_at hl 1 rfl) ?_
          refine va_get (D := D) (ci := 6) (v := .ref h1) (C := RX7) (T := TX7) (N := 2) hx hb hts inw_X7_append_k4_X7 hown hK hP 0 rfl rfl 0 (by decide) (hts (.fieldLink RX7 9 "EarTable$Tape" "bytes" "[I") (by decide +kernel)) (fun _ h9 => h9) rfl dX7_append_18 ?_
          refine lv_aload_n hx hb dX7_append_21 rfl (lv_at hl 1 rfl) ?_
          refine va_get (D := D) (ci := 6) (v := .int 17) (C := RX7) (T := TX7) (N := 2) hx hb hts inw_X7_append_k4_X7 hown hK hP 0 rfl rfl 1 (by decide) (hts (.fieldLink RX7 15 "EarTable$Tape" "length" "I") (by decide +kernel)) (fun _ h9 => h9) rfl dX7_append_22 ?_
          refine lv_iload_n hx hb dX7_append_25 rfl (lv_at hl 2 rfl) ?_
          refine lv_iload_n hx hb dX7_append_26 rfl (lv_at hl 0 rfl) ?_
          refine lv_iushr hx hb dX7_append_27 rfl ?_
          refine lv_topi (fun z_357 _ => ?_)
          refine lv_sipush (v := 255) hx hb dX7_append_28 (by decide) ?_
          refine lv_iand hx hb dX7_append_31 ?_
          refine lv_topi (fun z_358 _ => ?_)
          refine kn_iast hx hb hK hP hD hS 1 0 rfl rfl (kn_in (by decide)) dX7_append_32 (fun f_359 H locs hP hD hS => ?_)
          have hP : va_P D vwCl [(h0, .inr (6, [.ref h1, .int 17])), (h1, .inl (cI, 1600, .inl f_359))] H := hP
          have hD : va_D A [(h0, .inr (6, [.ref h1, .int 17])), (h1, .inl (cI, 1600, .inl f_359))] := hD
          refine lv_aload_n hx hb dX7_append_33 rfl (lv_at hl 1 rfl) ?_
          refine lv_dup hx hb dX7_append_34 rfl ?_
          refine va_get (D := D) (ci := 6) (v := .int 17) (C := RX7) (T := TX7) (N := 2) hx hb hts inw_X7_append_k4_X7 hown hK hP 0 rfl rfl 1 (by decide) (hts (.fieldLink RX7 15 "EarTable$Tape" "length" "I") (by decide +kernel)) (fun _ h9 => h9) rfl dX7_append_35 ?_
          refine lv_iconst (v := 1) hx hb dX7_append_38 (by decide) ?_
          refine lv_iadd hx hb dX7_append_39 ?_
          refine kn_top (y := 18) (by decide) ?_
          refine va_put (D := D) (ci := 6) (v := .int 18) (ty := .int) (C := RX7) (T := TX7) (N := 2) hx hb hts inw_X7_append_k4_X7 tyX7 tyX7_ok nmX7 hown hK hP hD hS 0 rfl rfl 1 (by decide) (hts (.fieldLink RX7 15 "EarTable$Tape" "length" "I") (by decide +kernel)) (fun _ h9 => h9) rfl (by decide +kernel) rfl rfl (Nat.le_of_ble_eq_true rfl) dX7_append_40 (fun H locs hP hD hS => ?_)
          have hP : va_P D vwCl [(h0, .inr (6, [.ref h1, .int 18])), (h1, .inl (cI, 1600, .inl f_359))] H := hP
          have hD : va_D A [(h0, .inr (6, [.ref h1, .int 18])), (h1, .inl (cI, 1600, .inl f_359))] := hD
          refine lv_iinc (v := 8) (lv' := [(2, .int 8), (0, .ref h0), (1, .int p1)]) hx hb dX7_append_43 hl (k := 0) rfl (by decide) (by decide) rfl (fun ls hl => ?_)
          refine lv_goto (tgt := 3) hx hb dX7_append_46 (by decide) ?_
          refine lv_iload_n hx hb dX7_append_3 rfl (lv_at hl 0 rfl) ?_
          refine lv_if_lt (tgt := 49) hx hb dX7_append_4 (by decide) (fun c_360 => ?_) (fun c_360 => ?_)
          · skip
            exact absurd c_360 (by decide)
          · skip
            refine lv_aload_n hx hb dX7_append_7 rfl (lv_at hl 1 rfl) ?_
            refine va_get (D := D) (ci := 6) (v := .int 18) (C := RX7) (T := TX7) (N := 2) hx hb hts inw_X7_append_k4_X7 hown hK hP 0 rfl rfl 1 (by decide) (hts (.fieldLink RX7 15 "EarTable$Tape" "length" "I") (by decide +kernel)) (fun _ h9 => h9) rfl dX7_append_8 ?_
            refine lv_sipush (v := 1600) hx hb dX7_append_11 (by decide) ?_
            refine lv_icmp_ge (tgt := 49) hx hb dX7_append_14 (by decide) (fun c_361 => ?_) (fun c_361 => ?_)
            · skip
              exact absurd c_361 (by decide)
            · skip
              refine lv_aload_n hx hb dX7_append_17 rfl (lv_at hl 1 rfl) ?_
              refine va_get (D := D) (ci := 6) (v := .ref h1) (C := RX7) (T := TX7) (N := 2) hx hb hts inw_X7_append_k4_X7 hown hK hP 0 rfl rfl 0 (by decide) (hts (.fieldLink RX7 9 "EarTable$Tape" "bytes" "[I") (by decide +kernel)) (fun _ h9 => h9) rfl dX7_append_18 ?_
              refine lv_aload_n hx hb dX7_append_21 rfl (lv_at hl 1 rfl) ?_
              refine va_get (D := D) (ci := 6) (v := .int 18) (C := RX7) (T := TX7) (N := 2) hx hb hts inw_X7_append_k4_X7 hown hK hP 0 rfl rfl 1 (by decide) (hts (.fieldLink RX7 15 "EarTable$Tape" "length" "I") (by decide +kernel)) (fun _ h9 => h9) rfl dX7_append_22 ?_
              refine lv_iload_n hx hb dX7_append_25 rfl (lv_at hl 2 rfl) ?_
              refine lv_iload_n hx hb dX7_append_26 rfl (lv_at hl 0 rfl) ?_
              refine lv_iushr hx hb dX7_append_27 rfl ?_
              refine lv_topi (fun z_362 _ => ?_)
              refine lv_sipush (v := 255) hx hb dX7_append_28 (by decide) ?_
              refine lv_iand hx hb dX7_append_31 ?_
              refine lv_topi (fun z_363 _ => ?_)
              refine kn_iast hx hb hK hP hD hS 1 0 rfl rfl (kn_in (by decide)) dX7_append_32 (fun f_364 H locs hP hD hS => ?_)
              have hP : va_P D vwCl [(h0, .inr (6, [.ref h1, .int 18])), (h1, .inl (cI, 1600, .inl f_364))] H := hP
              have hD : va_D A [(h0, .inr (6, [.ref h1, .int 18])), (h1, .inl (cI, 1600, .inl f_364))] := hD
              refine lv_aload_n hx hb dX7_append_33 rfl (lv_at hl 1 rfl) ?_
              refine lv_dup hx hb dX7_append_34 rfl ?_
              refine va_get (D := D) (ci := 6) (v := .int 18) (C := RX7) (T := TX7) (N := 2) hx hb hts inw_X7_append_k4_X7 hown hK hP 0 rfl rfl 1 (by decide) (hts (.fieldLink RX7 15 "EarTable$Tape" "length" "I") (by decide +kernel)) (fun _ h9 => h9) rfl dX7_append_35 ?_
              refine lv_iconst (v := 1) hx hb dX7_append_38 (by decide) ?_
              refine lv_iadd hx hb dX7_append_39 ?_
              refine kn_top (y := 19) (by decide) ?_
              refine va_put (D := D) (ci := 6) (v := .int 19) (ty := .int) (C := RX7) (T := TX7) (N := 2) hx hb hts inw_X7_append_k4_X7 tyX7 tyX7_ok nmX7 hown hK hP hD hS 0 rfl rfl 1 (by decide) (hts (.fieldLink RX7 15 "EarTable$Tape" "length" "I") (by decide +kernel)) (fun _ h9 => h9) rfl (by decide +kernel) rfl rfl (Nat.le_of_ble_eq_true rfl) dX7_append_40 (fun H locs hP hD hS => ?_)
              have hP : va_P D vwCl [(h0, .inr (6, [.ref h1, .int 19])), (h1, .inl (cI, 1600, .inl f_364))] H := hP
              have hD : va_D A [(h0, .inr (6, [.ref h1, .int 19])), (h1, .inl (cI, 1600, .inl f_364))] := hD
              refine lv_iinc (v := 0) (lv' := [(2, .int 0), (0, .ref h0), (1, .int p1)]) hx hb dX7_append_43 hl (k := 0) rfl (by decide) (by decide) rfl (fun ls hl => ?_)
              refine lv_goto (tgt := 3) hx hb dX7_append_46 (by decide) ?_
              refine lv_iload_n hx hb dX7_append_3 rfl (lv_at hl 0 rfl) ?_
              refine lv_if_lt (tgt := 49) hx hb dX7_append_4 (by decide) (fun c_365 => ?_) (fun c_365 => ?_)
              · skip
                exact absurd c_365 (by decide)
              · skip
                refine lv_aload_n hx hb dX7_append_7 rfl (lv_at hl 1 rfl) ?_
                refine va_get (D := D) (ci := 6) (v := .int 19) (C := RX7) (T := TX7) (N := 2) hx hb hts inw_X7_append_k4_X7 hown hK hP 0 rfl rfl 1 (by decide) (hts (.fieldLink RX7 15 "EarTable$Tape" "length" "I") (by decide +kernel)) (fun _ h9 => h9) rfl dX7_append_8 ?_
                refine lv_sipush (v := 1600) hx hb dX7_append_11 (by decide) ?_
                refine lv_icmp_ge (tgt := 49) hx hb dX7_append_14 (by decide) (fun c_366 => ?_) (fun c_366 => ?_)
                · skip
                  exact absurd c_366 (by decide)
                · skip
                  refine lv_aload_n hx hb dX7_append_17 rfl (lv_at hl 1 rfl) ?_
                  refine va_get (D := D) (ci := 6) (v := .ref h1) (C := RX7) (T := TX7) (N := 2) hx hb hts inw_X7_append_k4_X7 hown hK hP 0 rfl rfl 0 (by decide) (hts (.fieldLink RX7 9 "EarTable$Tape" "bytes" "[I") (by decide +kernel)) (fun _ h9 => h9) rfl dX7_append_18 ?_
                  refine lv_aload_n hx hb dX7_append_21 rfl (lv_at hl 1 rfl) ?_
                  refine va_get (D := D) (ci := 6) (v := .int 19) (C := RX7) (T := TX7) (N := 2) hx hb hts inw_X7_append_k4_X7 hown hK hP 0 rfl rfl 1 (by decide) (hts (.fieldLink RX7 15 "EarTable$Tape" "length" "I") (by decide +kernel)) (fun _ h9 => h9) rfl dX7_append_22 ?_
                  refine lv_iload_n hx hb dX7_append_25 rfl (lv_at hl 2 rfl) ?_
                  refine lv_iload_n hx hb dX7_append_26 rfl (lv_at hl 0 rfl) ?_
                  refine lv_iushr hx hb dX7_append_27 rfl ?_
                  refine lv_topi (fun z_367 _ => ?_)
                  refine lv_sipush (v := 255) hx hb dX7_append_28 (by decide) ?_
                  refine lv_iand hx hb dX7_append_31 ?_
                  refine lv_topi (fun z_368 _ => ?_)
                  refine kn_iast hx hb hK hP hD hS 1 0 rfl rfl (kn_in (by decide)) dX7_append_32 (fun f_369 H locs hP hD hS => ?_)
                  have hP : va_P D vwCl [(h0, .inr (6, [.ref h1, .int 19])), (h1, .inl (cI, 1600, .inl f_369))] H := hP
                  have hD : va_D A [(h0, .inr (6, [.ref h1, .int 19])), (h1, .inl (cI, 1600, .inl f_369))] := hD
                  refine lv_aload_n hx hb dX7_append_33 rfl (lv_at hl 1 rfl) ?_
                  refine lv_dup hx hb dX7_append_34 rfl ?_
                  refine va_get (D := D) (ci := 6) (v := .int 19) (C := RX7) (T := TX7) (N := 2) hx hb hts inw_X7_append_k4_X7 hown hK hP 0 rfl rfl 1 (by decide) (hts (.fieldLink RX7 15 "EarTable$Tape" "length" "I") (by decide +kernel)) (fun _ h9 => h9) rfl dX7_append_35 ?_
                  refine lv_iconst (v := 1) hx hb dX7_append_38 (by decide) ?_
                  refine lv_iadd hx hb dX7_append_39 ?_
                  refine kn_top (y := 20) (by decide) ?_
                  refine va_put (D := D) (ci := 6) (v := .int 20) (ty := .int) (C := RX7) (T := TX7) (N := 2) hx hb hts inw_X7_append_k4_X7 tyX7 tyX7_ok nmX7 hown hK hP hD hS 0 rfl rfl 1 (by decide) (hts (.fieldLink RX7 15 "EarTable$Tape" "length" "I") (by decide +kernel)) (fun _ h9 => h9) rfl (by decide +kernel) rfl rfl (Nat.le_of_ble_eq_true rfl) dX7_append_40 (fun H locs hP hD hS => ?_)
                  have hP : va_P D vwCl [(h0, .inr (6, [.ref h1, .int 20])), (h1, .inl (cI, 1600, .inl f_369))] H := hP
                  have hD : va_D A [(h0, .inr (6, [.ref h1, .int 20])), (h1, .inl (cI, 1600, .inl f_369))] := hD
                  refine lv_iinc (v := (-8)) (lv' := [(2, .int (-8)), (0, .ref h0), (1, .int p1)]) hx hb dX7_append_43 hl (k := 0) rfl (by decide) (by decide) rfl (fun ls hl => ?_)
                  refine lv_goto (tgt := 3) hx hb dX7_append_46 (by decide) ?_
                  refine lv_iload_n hx hb dX7_append_3 rfl (lv_at hl 0 rfl) ?_
                  refine lv_if_lt (tgt := 49) hx hb dX7_append_4 (by decide) (fun c_370 => ?_) (fun c_370 => ?_)
                  · skip
                    have hP9 := hP.sub (ws' := [(h0, .inr (6, [.ref h1, .int 20])), (h1, .inl (cI, 1600, .inl f_369))]) [0, 1] rfl
                    have hD9 := hD.sub (ws' := [(h0, .inr (6, [.ref h1, .int 20])), (h1, .inl (cI, 1600, .inl f_369))]) [0, 1] (by decide) rfl
                    exact W.vret hx hb hr (fun t ht hW => ⟨⟨f_369, rfl, trivial, by rw [ht]; exact hP9, hD9⟩, hS.F ht⟩) hS.2.2 dX7_append_49
                  · skip
                    exact absurd (by decide) c_370
