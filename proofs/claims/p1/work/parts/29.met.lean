def o_X11_quarrel : List Cond := [.fieldLink RX11 28 "EarTable" "grid" "LEarTable$Grid;", .methodLink RX11 236 yX1_quarrelSpot, .instanceMethod yX1_quarrelSpot, .selects RX1 yX1_quarrelSpot yX1_quarrelSpot, .initialized RX1]
def u_X11_quarrel : List Cond := .code yX11_quarrel cX11_quarrel 3 (some .int) :: (o_X11_quarrel ++ (u_X1_quarrelSpot ++ (wsX110 ++ ([] : List Cond))))
theorem gs_X11_quarrel__X1_quarrelSpot : GoodIn u_X11_quarrel u_X1_quarrelSpot := goodIn_sub (fun w h => List.mem_cons_of_mem _ (List.mem_append_right _ (List.mem_append_left _ h))) good_X1_quarrelSpot
theorem inw_X11_quarrel_X11 : ∀ w ∈ wsX110, w ∈ u_X11_quarrel := fun w h => List.mem_cons_of_mem _ (List.mem_append_right _ (List.mem_append_right _ (List.mem_append_left _ h)))
set_option maxRecDepth 20000 in
theorem good_X11_quarrel : u_X11_quarrel.all goodWord = true := by decide +kernel
set_option maxRecDepth 20000 in
theorem in_X11_quarrel : ∀ w ∈ u_X11_quarrel, w ∈ lw_tbl := ma_cons inc_X11_quarrel (ma_app (ma_pos o_X11_quarrel [386, 807, 808, 809, 68] (by decide +kernel)) (ma_app in_X1_quarrelSpot (ma_app inb_X11 ma_nil)))
set_option maxHeartbeats 4000000 in
set_option maxRecDepth 100000 in
theorem c_X11_quarrel (l : Launch) (D : va_G) (cI cJ cZ cB : ClassId) (sz : Nat) (h0 : Nat) (h1 : Nat) (v0 : Value) (v1 : Value) (v2 : Value) (v3 : Value) (v4 : Value) (v5 : Value) (v6 : Value) (v7 : Value) (v8 : Value) (v9 : Value) (v10 : Value) (v11 : Value) (v12 : Value) (v13 : Value) (v14 : Value) (v15 : Value) (v16 : Value) (v17 : Value) (v18 : Value) (p1 : Int32) : Met l yX11_quarrel u_X11_quarrel ({ frames := 1, cells := 0, slots := 0, locals := 24 }) (va_Pc [.ref h0, .int p1] (kPre D cI cJ cZ cB [(h0, .inr (10, [v0, v1, .ref h1, v2, v3, v4, v5, v6, v7, v8, v9, v10, v11])), (h1, .inr (1, [v12, v13, v14, v15, v16, v17, .int 0, v18]))] sz)) (va_Qi (fun (r : Int32) (_ : Unit) => r = (-1)) (kB D (fun (u : Unit) => [(h0, .inr (10, [v0, v1, .ref h1, v2, v3, v4, v5, v6, v7, v8, v9, v10, v11])), (h1, .inr (1, [v12, v13, v14, v15, v16, v17, .int 0, v18]))]) (va_A [(h0, .inr (10, [v0, v1, .ref h1, v2, v3, v4, v5, v6, v7, v8, v9, v10, v11])), (h1, .inr (1, [v12, v13, v14, v15, v16, v17, .int 0, v18]))] sz)) (va_A [(h0, .inr (10, [v0, v1, .ref h1, v2, v3, v4, v5, v6, v7, v8, v9, v10, v11])), (h1, .inr (1, [v12, v13, v14, v15, v16, v17, .int 0, v18]))] sz)) 0 0 (va_A [(h0, .inr (10, [v0, v1, .ref h1, v2, v3, v4, v5, v6, v7, v8, v9, v10, v11])), (h1, .inr (1, [v12, v13, v14, v15, v16, v17, .int 0, v18]))] sz) := by
  refine Met.ofW (cc := cX11_quarrel) (maxL := 3) (ret := (some .int)) (by decide) rfl ?_
  intro p e s m args below meth c s₁ B hml hv
  obtain ⟨rfl, hsz, hP, hK, hN, hD0⟩ := hv
  have hx := B.exec
  have hb := B.bytes
  have hr := B.returns
  have hts := atoms_spec (ws := u_X11_quarrel) B.pre
  have hown : s.vm.findClass RX11 = some m.cls := findClass_of_methodNamed B.named
  have hlocks := B.notSynchronized
  subst hsz
  have hD := hD0.self (sz := s.heap.size)
  generalize hAe : va_A [(h0, .inr (10, [v0, v1, .ref h1, v2, v3, v4, v5, v6, v7, v8, v9, v10, v11])), (h1, .inr (1, [v12, v13, v14, v15, v16, v17, .int 0, v18]))] s.heap.size = A at hD ⊢
  have hA : ∀ q : Nat, s.heap.size ≤ q → A q := fun q h => by rw [← hAe]; exact Or.inr h
  have hS : va_S A s.heap s.heap [] := va_S.rf
  have hP : va_P D vwCl [(h0, .inr (10, [v0, v1, .ref h1, v2, v3, v4, v5, v6, v7, v8, v9, v10, v11])), (h1, .inr (1, [v12, v13, v14, v15, v16, v17, .int 0, v18]))] s.heap := hP
  have hl := lv_entry ([.ref h0, .int p1]) (n := 3) (Nat.le_of_ble_eq_true rfl)
  rw [lg_entry_eq]
  generalize (lg_sl ([.ref h0, .int p1]) ++ List.replicate (3 - (lg_sl ([.ref h0, .int p1])).length) Slot.unset).toArray = ls at hl ⊢
  have hl : lv_has ls 3 [(0, .ref h0), (1, .int p1)] := hl
  obtain ⟨H, hHe⟩ : ∃ H, s.heap = H := ⟨_, rfl⟩
  have hP : va_P D vwCl [(h0, .inr (10, [v0, v1, .ref h1, v2, v3, v4, v5, v6, v7, v8, v9, v10, v11])), (h1, .inr (1, [v12, v13, v14, v15, v16, v17, .int 0, v18]))] H := by rw [← hHe]; exact hP
  have hS : va_S A s.heap H [] := by rw [← hHe]; exact hS
  refine kn_heap hHe ?_
  refine lv_aload_n hx hb dX11_quarrel_0 rfl (lv_at hl 0 rfl) ?_
  refine va_get (D := D) (ci := 10) (v := .ref h1) (C := RX11) (T := TX11) (N := 13) hx hb hts inw_X11_quarrel_X11 hown hK hP 0 rfl rfl 2 (by decide) (hts (.fieldLink RX11 28 "EarTable" "grid" "LEarTable$Grid;") (by decide +kernel)) (fun _ h9 => h9) rfl dX11_quarrel_1 ?_
  refine lv_iload_n hx hb dX11_quarrel_4 rfl (lv_at hl 1 rfl) ?_
  have hPc := hP.sub (ws' := [(h1, .inr (1, [v12, v13, v14, v15, v16, v17, .int 0, v18]))]) [1] rfl
  have hDc := hD.sub (ws' := [(h1, .inr (1, [v12, v13, v14, v15, v16, v17, .int 0, v18]))]) [1] (by decide) rfl
  refine kn_calli (wr := [(h0, .inr (10, [v0, v1, .ref h1, v2, v3, v4, v5, v6, v7, v8, v9, v10, v11]))]) (cells' := 0) (slots' := 0) (va_runV (As := [.int p1]) (rest := []) ⟨hx, hb, hml, hown, hts⟩ (c_X1_quarrelSpot l D cI cJ cZ cB H.size h1 v12 v13 v14 v15 v16 v17 v18 p1) (cwV 1 hts (goodIn_app (goodIn_of _ (by decide +kernel)) gs_X11_quarrel__X1_quarrelSpot) rfl rfl rfl (by decide +kernel) ⟨(Nat.le_of_ble_eq_true rfl), (Nat.le_of_ble_eq_true rfl)⟩) (kp_V 0 1 rfl rfl hPc hK hN hDc) rfl rfl hl.1 rfl (lv_room (Nat.le_of_ble_eq_true rfl)) dX11_quarrel_5 ⟨(Nat.le_of_ble_eq_true rfl), (Nat.le_of_ble_eq_true rfl)⟩) hS hA hP hD [1] [0] rfl rfl (by decide) (by decide) (Nat.le_of_ble_eq_true rfl) (Nat.le_of_ble_eq_true rfl) (fun r_732 u H locs hw_733 hP hD hS => ?_)
  have hP : va_P D vwCl [(h0, .inr (10, [v0, v1, .ref h1, v2, v3, v4, v5, v6, v7, v8, v9, v10, v11])), (h1, .inr (1, [v12, v13, v14, v15, v16, v17, .int 0, v18]))] H := hP
  have hD : va_D A [(h0, .inr (10, [v0, v1, .ref h1, v2, v3, v4, v5, v6, v7, v8, v9, v10, v11])), (h1, .inr (1, [v12, v13, v14, v15, v16, v17, .int 0, v18]))] := hD
  subst hw_733
  refine lv_istore_n (lv' := [(2, .int (-1)), (0, .ref h0), (1, .int p1)]) hx hb dX11_quarrel_8 rfl hl (by decide) rfl (fun ls hl => ?_)
  refine lv_iload_n hx hb dX11_quarrel_9 rfl (lv_at hl 0 rfl) ?_
  refine lv_iconst (v := (-1)) hx hb dX11_quarrel_10 (by decide) ?_
  refine lv_icmp_ne (tgt := 18) hx hb dX11_quarrel_11 (by decide) (fun c_734 => ?_) (fun c_734 => ?_)
  · skip
    exact absurd rfl c_734
  · skip
    refine lv_iconst (v := (-1)) hx hb dX11_quarrel_14 (by decide) ?_
    refine lv_goto (tgt := 30) hx hb dX11_quarrel_15 (by decide) ?_
    have hP9 := hP.sub (ws' := [(h0, .inr (10, [v0, v1, .ref h1, v2, v3, v4, v5, v6, v7, v8, v9, v10, v11])), (h1, .inr (1, [v12, v13, v14, v15, v16, v17, .int 0, v18]))]) [0, 1] rfl
    have hD9 := hD.sub (ws' := [(h0, .inr (10, [v0, v1, .ref h1, v2, v3, v4, v5, v6, v7, v8, v9, v10, v11])), (h1, .inr (1, [v12, v13, v14, v15, v16, v17, .int 0, v18]))]) [0, 1] (by decide) rfl
    exact W.iret (v := (-1)) hx hb hr (fun t ht hW => ⟨⟨(-1), (), rfl, rfl, by rw [ht]; exact hP9, hD9⟩, hS.F ht⟩) hS.2.2 dX11_quarrel_30
def o_X12_seekQuarrels_k1 : List Cond := [.fieldLink RX12 297 "EarTableModel" "quarrelMany" "I", .fieldLink RX12 300 "EarTableModel" "quarrelAt" "I", .fieldLink RX12 303 "EarTableModel" "quarrelRight" "J", .fieldLink RX12 74 "EarTableModel" "lines" "[I", .fieldLink RX12 64 "EarTableModel" "bank" "I"]
def u_X12_seekQuarrels_k1 : List Cond := .code yX12_seekQuarrels cX12_seekQuarrels 5 none :: (o_X12_seekQuarrels_k1 ++ (wsX120 ++ ([] : List Cond)))
theorem inw_X12_seekQuarrels_k1_X12 : ∀ w ∈ wsX120, w ∈ u_X12_seekQuarrels_k1 := fun w h => List.mem_cons_of_mem _ (List.mem_append_right _ (List.mem_append_left _ h))
set_option maxRecDepth 20000 in
theorem good_X12_seekQuarrels_k1 : u_X12_seekQuarrels_k1.all goodWord = true := by decide +kernel
set_option maxRecDepth 20000 in
theorem in_X12_seekQuarrels_k1 : ∀ w ∈ u_X12_seekQuarrels_k1, w ∈ lw_tbl := ma_cons inc_X12_seekQuarrels (ma_app (ma_pos o_X12_seekQuarrels_k1 [1023, 1024, 1025, 992, 996] (by decide +kernel)) (ma_app inb_X12 ma_nil))
set_option maxHeartbeats 4000000 in
set_option maxRecDepth 100000 in
theorem c_X12_seekQuarrels_k1 (l : Launch) (D : va_G) (cI cJ cZ cB : ClassId) (sz : Nat) (h0 : Nat) (h1 : Nat) (v0 : Value) (v1 : Value) (v2 : Value) (v3 : Value) (v4 : Value) (v5 : Value) (v6 : Value) (v7 : Value) (v8 : Value) (v9 : Value) (v10 : Value) (v11 : Value) (v12 : Value) (v13 : Value) (v14 : Value) (v15 : Value) (v16 : Value) (v17 : Value) (v18 : Value) (v19 : Value) (v20 : Value) (v21 : Value) (v22 : Value) (v23 : Value) (v24 : Value) (v25 : Value) (v26 : Value) (v27 : Value) (v28 : Value) (v29 : Value) (v30 : Value) (v31 : Value) (v32 : Value) (v33 : Value) (v34 : Value) (v35 : Value) (v36 : Value) (v37 : Value) (v38 : Value) (v39 : Value) (v40 : Value) (v41 : Value) (v42 : Value) (v43 : Value) (v44 : Value) (v45 : Value) (v46 : Value) (v47 : Value) (p1 : Int32) : Met l yX12_seekQuarrels u_X12_seekQuarrels_k1 ({ frames := 0, cells := 0, slots := 0, locals := 0 }) (va_Pc [.ref h0, .int p1] (kPre D cI cJ cZ cB [(h0, .inr (11, [v0, v1, v2, v3, v4, v5, v6, v7, v8, v9, v10, v11, v12, v13, v14, v15, .ref h1, v16, v17, v18, .int 0, v19, v20, v21, v22, v23, v24, v25, v26, v27, v28, v29, v30, v31, v32, v33, v34, v35, v36, v37, v38, v39, v40, v41, v42, v43, v44, v45, v46, v47])), (h1, .inl (cI, 2, .inl (fun _ => 0)))] sz)) (va_Qv (fun (_ : Unit) => True) (kB D (fun (u : Unit) => [(h0, .inr (11, [v0, v1, v2, v3, v4, v5, v6, v7, v8, v9, v10, v11, v12, v13, v14, v15, .ref h1, v16, v17, v18, .int 0, v19, v20, v21, v22, v23, v24, v25, v26, v27, v28, v29, v30, v31, v32, v33, v34, v35, v36, v37, v38, v39, v40, v41, v42, v43, v44, .int 0, .int (-1), .long 0])), (h1, .inl (cI, 2, .inl (fun _ => 0)))]) (va_A [(h0, .inr (11, [v0, v1, v2, v3, v4, v5, v6, v7, v8, v9, v10, v11, v12, v13, v14, v15, .ref h1, v16, v17, v18, .int 0, v19, v20, v21, v22, v23, v24, v25, v26, v27, v28, v29, v30, v31, v32, v33, v34, v35, v36, v37, v38, v39, v40, v41, v42, v43, v44, v45, v46, v47])), (h1, .inl (cI, 2, .inl (fun _ => 0)))] sz)) (va_A [(h0, .inr (11, [v0, v1, v2, v3, v4, v5, v6, v7, v8, v9, v10, v11, v12, v13, v14, v15, .ref h1, v16, v17, v18, .int 0, v19, v20, v21, v22, v23, v24, v25, v26, v27, v28, v29, v30, v31, v32, v33, v34, v35, v36, v37, v38, v39, v40, v41, v42, v43, v44, v45, v46, v47])), (h1, .inl (cI, 2, .inl (fun _ => 0)))] sz)) 0 0 (va_A [(h0, .inr (11, [v0, v1, v2, v3, v4, v5, v6, v7, v8, v9, v10, v11, v12, v13, v14, v15, .ref h1, v16, v17, v18, .int 0, v19, v20, v21, v22, v23, v24, v25, v26, v27, v28, v29, v30, v31, v32, v33, v34, v35, v36, v37, v38, v39, v40, v41, v42, v43, v44, v45, v46, v47])), (h1, .inl (cI, 2, .inl (fun _ => 0)))] sz) := by
  refine Met.ofW (cc := cX12_seekQuarrels) (maxL := 5) (ret := none) (by decide) rfl ?_
  intro p e s m args below meth c s₁ B hml hv
  obtain ⟨rfl, hsz, hP, hK, hN, hD0⟩ := hv
  have hx := B.exec
  have hb := B.bytes
  have hr := B.returns
  have hts := atoms_spec (ws := u_X12_seekQuarrels_k1) B.pre
  have hown : s.vm.findClass RX12 = some m.cls := findClass_of_methodNamed B.named
  have hlocks := B.notSynchronized
  subst hsz
  have hD := hD0.self (sz := s.heap.size)
  generalize hAe : va_A [(h0, .inr (11, [v0, v1, v2, v3, v4, v5, v6, v7, v8, v9, v10, v11, v12, v13, v14, v15, .ref h1, v16, v17, v18, .int 0, v19, v20, v21, v22, v23, v24, v25, v26, v27, v28, v29, v30, v31, v32, v33, v34, v35, v36, v37, v38, v39, v40, v41, v42, v43, v44, v45, v46, v47])), (h1, .inl (cI, 2, .inl (fun _ => 0)))] s.heap.size = A at hD ⊢
  have hA : ∀ q : Nat, s.heap.size ≤ q → A q := fun q h => by rw [← hAe]; exact Or.inr h
  have hS : va_S A s.heap s.heap [] := va_S.rf
  have hP : va_P D vwCl [(h0, .inr (11, [v0, v1, v2, v3, v4, v5, v6, v7, v8, v9, v10, v11, v12, v13, v14, v15, .ref h1, v16, v17, v18, .int 0, v19, v20, v21, v22, v23, v24, v25, v26, v27, v28, v29, v30, v31, v32, v33, v34, v35, v36, v37, v38, v39, v40, v41, v42, v43, v44, v45, v46, v47])), (h1, .inl (cI, 2, .inl (fun _ => 0)))] s.heap := hP
  have hl := lv_entry ([.ref h0, .int p1]) (n := 5) (Nat.le_of_ble_eq_true rfl)
  rw [lg_entry_eq]
  generalize (lg_sl ([.ref h0, .int p1]) ++ List.replicate (5 - (lg_sl ([.ref h0, .int p1])).length) Slot.unset).toArray = ls at hl ⊢
  have hl : lv_has ls 5 [(0, .ref h0), (1, .int p1)] := hl
  obtain ⟨H, hHe⟩ : ∃ H, s.heap = H := ⟨_, rfl⟩
  have hP : va_P D vwCl [(h0, .inr (11, [v0, v1, v2, v3, v4, v5, v6, v7, v8, v9, v10, v11, v12, v13, v14, v15, .ref h1, v16, v17, v18, .int 0, v19, v20, v21, v22, v23, v24, v25, v26, v27, v28, v29, v30, v31, v32, v33, v34, v35, v36, v37, v38, v39, v40, v41, v42, v43, v44, v45, v46, v47])), (h1, .inl (cI, 2, .inl (fun _ => 0)))] H := by rw [← hHe]; exact hP
  have hS : va_S A s.heap H [] := by rw [← hHe]; exact hS
  refine kn_heap hHe ?_
  refine lv_aload_n hx hb dX12_seekQuarrels_0 rfl (lv_at hl 0 rfl) ?_
  refine lv_iconst (v := 0) hx hb dX12_seekQuarrels_1 (by decide) ?_
  refine va_put (D := D) (ci := 11) (v := .int 0) (ty := .int) (C := RX12) (T := TX12) (N := 50) hx hb hts inw_X12_seekQuarrels_k1_X12 tyX12 tyX12_ok nmX12 hown hK hP hD hS 0 rfl rfl 47 (by decide) (hts (.fieldLink RX12 297 "EarTableModel" "quarrelMany" "I") (by decide +kernel)) (fun _ h9 => h9) rfl (by decide +kernel) rfl rfl (Nat.le_of_ble_eq_true rfl) dX12_seekQuarrels_2 (fun H locs hP hD hS => ?_)
  have hP : va_P D vwCl [(h0, .inr (11, [v0, v1, v2, v3, v4, v5, v6, v7, v8, v9, v10, v11, v12, v13, v14, v15, .ref h1, v16, v17, v18, .int 0, v19, v20, v21, v22, v23, v24, v25, v26, v27, v28, v29, v30, v31, v32, v33, v34, v35, v36, v37, v38, v39, v40, v41, v42, v43, v44, .int 0, v46, v47])), (h1, .inl (cI, 2, .inl (fun _ => 0)))] H := hP
  have hD : va_D A [(h0, .inr (11, [v0, v1, v2, v3, v4, v5, v6, v7, v8, v9, v10, v11, v12, v13, v14, v15, .ref h1, v16, v17, v18, .int 0, v19, v20, v21, v22, v23, v24, v25, v26, v27, v28, v29, v30, v31, v32, v33, v34, v35, v36, v37, v38, v39, v40, v41, v42, v43, v44, .int 0, v46, v47])), (h1, .inl (cI, 2, .inl (fun _ => 0)))] := hD
  refine lv_aload_n hx hb dX12_seekQuarrels_5 rfl (lv_at hl 0 rfl) ?_
  refine lv_iconst (v := (-1)) hx hb dX12_seekQuarrels_6 (by decide) ?_
  refine va_put (D := D) (ci := 11) (v := .int (-1)) (ty := .int) (C := RX12) (T := TX12) (N := 50) hx hb hts inw_X12_seekQuarrels_k1_X12 tyX12 tyX12_ok nmX12 hown hK hP hD hS 0 rfl rfl 48 (by decide) (hts (.fieldLink RX12 300 "EarTableModel" "quarrelAt" "I") (by decide +kernel)) (fun _ h9 => h9) rfl (by decide +kernel) rfl rfl (Nat.le_of_ble_eq_true rfl) dX12_seekQuarrels_7 (fun H locs hP hD hS => ?_)
  have hP : va_P D vwCl [(h0, .inr (11, [v0, v1, v2, v3, v4, v5, v6, v7, v8, v9, v10, v11, v12, v13, v14, v15, .ref h1, v16, v17, v18, .int 0, v19, v20, v21, v22, v23, v24, v25, v26, v27, v28, v29, v30, v31, v32, v33, v34, v35, v36, v37, v38, v39, v40, v41, v42, v43, v44, .int 0, .int (-1), v47])), (h1, .inl (cI, 2, .inl (fun _ => 0)))] H := hP
  have hD : va_D A [(h0, .inr (11, [v0, v1, v2, v3, v4, v5, v6, v7, v8, v9, v10, v11, v12, v13, v14, v15, .ref h1, v16, v17, v18, .int 0, v19, v20, v21, v22, v23, v24, v25, v26, v27, v28, v29, v30, v31, v32, v33, v34, v35, v36, v37, v38, v39, v40, v41, v42, v43, v44, .int 0, .int (-1), v47])), (h1, .inl (cI, 2, .inl (fun _ => 0)))] := hD
  refine lv_aload_n hx hb dX12_seekQuarrels_10 rfl (lv_at hl 0 rfl) ?_
  refine lv_lconst (v := 0) hx hb dX12_seekQuarrels_11 (by decide) ?_
  refine va_put (D := D) (ci := 11) (v := .long 0) (ty := .long) (C := RX12) (T := TX12) (N := 50) hx hb hts inw_X12_seekQuarrels_k1_X12 tyX12 tyX12_ok nmX12 hown hK hP hD hS 0 rfl rfl 49 (by decide) (hts (.fieldLink RX12 303 "EarTableModel" "quarrelRight" "J") (by decide +kernel)) (fun _ h9 => h9) rfl (by decide +kernel) rfl rfl (Nat.le_of_ble_eq_true rfl) dX12_seekQuarrels_12 (fun H locs hP hD hS => ?_)
  have hP : va_P D vwCl [(h0, .inr (11, [v0, v1, v2, v3, v4, v5, v6, v7, v8, v9, v10, v11, v12, v13, v14, v15, .ref h1, v16, v17, v18, .int 0, v19, v20, v21, v22, v23, v24, v25, v26, v27, v28, v29, v30, v31, v32, v33, v34, v35, v36, v37, v38, v39, v40, v41, v42, v43, v44, .int 0, .int (-1), .long 0])), (h1, .inl (cI, 2, .inl (fun _ => 0)))] H := hP
  have hD : va_D A [(h0, .inr (11, [v0, v1, v2, v3, v4, v5, v6, v7, v8, v9, v10, v11, v12, v13, v14, v15, .ref h1, v16, v17, v18, .int 0, v19, v20, v21, v22, v23, v24, v25, v26, v27, v28, v29, v30, v31, v32, v33, v34, v35, v36, v37, v38, v39, v40, v41, v42, v43, v44, .int 0, .int (-1), .long 0])), (h1, .inl (cI, 2, .inl (fun _ => 0)))] := hD
  refine lv_iconst (v := 0) hx hb dX12_seekQuarrels_15 (by decide) ?_
  refine lv_istore_n (lv' := [(2, .int 0), (0, .ref h0), (1, .int p1)]) hx hb dX12_seekQuarrels_16 rfl hl (by decide) rfl (fun ls hl => ?_)
  refine lv_iload_n hx hb dX12_seekQuarrels_17 rfl (lv_at hl 0 rfl) ?_
  refine lv_aload_n hx hb dX12_seekQuarrels_18 rfl (lv_at hl 1 rfl) ?_
  refine va_get (D := D) (ci := 11) (v := .ref h1) (C := RX12) (T := TX12) (N := 50) hx hb hts inw_X12_seekQuarrels_k1_X12 hown hK hP 0 rfl rfl 16 (by decide) (hts (.fieldLink RX12 74 "EarTableModel" "lines" "[I") (by decide +kernel)) (fun _ h9 => h9) rfl dX12_seekQuarrels_19 ?_
  refine lv_aload_n hx hb dX12_seekQuarrels_22 rfl (lv_at hl 1 rfl) ?_
  refine va_get (D := D) (ci := 11) (v := .int 0) (C := RX12) (T := TX12) (N := 50) hx hb hts inw_X12_seekQuarrels_k1_X12 hown hK hP 0 rfl rfl 20 (by decide) (hts (.fieldLink RX12 64 "EarTableModel" "bank" "I") (by decide +kernel)) (fun _ h9 => h9) rfl dX12_seekQuarrels_23 ?_
  refine va_iald hx hb hK hP 1 0 rfl rfl (kn_in (by decide)) dX12_seekQuarrels_26 ?_
  refine kn_top (y := 0) (by decide +kernel) ?_
  refine lv_icmp_ge (tgt := 166) hx hb dX12_seekQuarrels_27 (by decide) (fun c_737 => ?_) (fun c_737 => ?_)
  · skip
    have hP9 := hP.sub (ws' := [(h0, .inr (11, [v0, v1, v2, v3, v4, v5, v6, v7, v8, v9, v10, v11, v12, v13, v14, v15, .ref h1, v16, v17, v18, .int 0, v19, v20, v21, v22, v23, v24, v25, v26, v27, v28, v29, v30, v31, v32, v33, v34, v35, v36, v37, v38, v39, v40, v41, v42, v43, v44, .int 0, .int (-1), .long 0])), (h1, .inl (cI, 2, .inl (fun _ => 0)))]) [0, 1] rfl
    have hD9 := hD.sub (ws' := [(h0, .inr (11, [v0, v1, v2, v3, v4, v5, v6, v7, v8, v9, v10, v11, v12, v13, v14, v15, .ref h1, v16, v17, v18, .int 0, v19, v20, v21, v22, v23, v24, v25, v26, v27, v28, v29, v30, v31, v32, v33, v34, v35, v36, v37, v38, v39, v40, v41, v42, v43, v44, .int 0, .int (-1), .long 0])), (h1, .inl (cI, 2, .inl (fun _ => 0)))]) [0, 1] (by decide) rfl
    exact W.vret hx hb hr (fun t ht hW => ⟨⟨(), rfl, trivial, by rw [ht]; exact hP9, hD9⟩, hS.F ht⟩) hS.2.2 dX12_seekQuarrels_166
  · skip
    exact absurd rfl c_737
def o_X12_quarrel : List Cond := [.methodLink RX12 310 yX12_seekQuarrels, .instanceMethod yX12_seekQuarrels, .selects RX12 yX12_seekQuarrels yX12_seekQuarrels, .initialized RX12, .fieldLink RX12 300 "EarTableModel" "quarrelAt" "I"]
def u_X12_quarrel : List Cond := .code yX12_quarrel cX12_quarrel 2 (some .int) :: (o_X12_quarrel ++ (u_X12_seekQuarrels_k1 ++ (wsX120 ++ ([] : List Cond))))
theorem gs_X12_quarrel__X12_seekQuarrels_k1 : GoodIn u_X12_quarrel u_X12_seekQuarrels_k1 := goodIn_sub (fun w h => List.mem_cons_of_mem _ (List.mem_append_right _ (List.mem_append_left _ h))) good_X12_seekQuarrels_k1
theorem inw_X12_quarrel_X12 : ∀ w ∈ wsX120, w ∈ u_X12_quarrel := fun w h => List.mem_cons_of_mem _ (List.mem_append_right _ (List.mem_append_right _ (List.mem_append_left _ h)))
set_option maxRecDepth 20000 in
theorem good_X12_quarrel : u_X12_quarrel.all goodWord = true := by decide +kernel
set_option maxRecDepth 20000 in
theorem in_X12_quarrel : ∀ w ∈ u_X12_quarrel, w ∈ lw_tbl := ma_cons inc_X12_quarrel (ma_app (ma_pos o_X12_quarrel [1236, 1238, 59, 76, 1024] (by decide +kernel)) (ma_app in_X12_seekQuarrels_k1 (ma_app inb_X12 ma_nil)))
set_option maxHeartbeats 4000000 in
set_option maxRecDepth 100000 in
theorem c_X12_quarrel (l : Launch) (D : va_G) (cI cJ cZ cB : ClassId) (sz : Nat) (h0 : Nat) (h1 : Nat) (v0 : Value) (v1 : Value) (v2 : Value) (v3 : Value) (v4 : Value) (v5 : Value) (v6 : Value) (v7 : Value) (v8 : Value) (v9 : Value) (v10 : Value) (v11 : Value) (v12 : Value) (v13 : Value) (v14 : Value) (v15 : Value) (v16 : Value) (v17 : Value) (v18 : Value) (v19 : Value) (v20 : Value) (v21 : Value) (v22 : Value) (v23 : Value) (v24 : Value) (v25 : Value) (v26 : Value) (v27 : Value) (v28 : Value) (v29 : Value) (v30 : Value) (v31 : Value) (v32 : Value) (v33 : Value) (v34 : Value) (v35 : Value) (v36 : Value) (v37 : Value) (v38 : Value) (v39 : Value) (v40 : Value) (v41 : Value) (v42 : Value) (v43 : Value) (v44 : Value) (v45 : Value) (v46 : Value) (v47 : Value) (p1 : Int32) : Met l yX12_quarrel u_X12_quarrel ({ frames := 1, cells := 0, slots := 0, locals := 24 }) (va_Pc [.ref h0, .int p1] (kPre D cI cJ cZ cB [(h0, .inr (11, [v0, v1, v2, v3, v4, v5, v6, v7, v8, v9, v10, v11, v12, v13, v14, v15, .ref h1, v16, v17, v18, .int 0, v19, v20, v21, v22, v23, v24, v25, v26, v27, v28, v29, v30, v31, v32, v33, v34, v35, v36, v37, v38, v39, v40, v41, v42, v43, v44, v45, v46, v47])), (h1, .inl (cI, 2, .inl (fun _ => 0)))] sz)) (va_Qi (fun (r : Int32) (_ : Unit) => r = (-1)) (kB D (fun (u : Unit) => [(h0, .inr (11, [v0, v1, v2, v3, v4, v5, v6, v7, v8, v9, v10, v11, v12, v13, v14, v15, .ref h1, v16, v17, v18, .int 0, v19, v20, v21, v22, v23, v24, v25, v26, v27, v28, v29, v30, v31, v32, v33, v34, v35, v36, v37, v38, v39, v40, v41, v42, v43, v44, .int 0, .int (-1), .long 0])), (h1, .inl (cI, 2, .inl (fun _ => 0)))]) (va_A [(h0, .inr (11, [v0, v1, v2, v3, v4, v5, v6, v7, v8, v9, v10, v11, v12, v13, v14, v15, .ref h1, v16, v17, v18, .int 0, v19, v20, v21, v22, v23, v24, v25, v26, v27, v28, v29, v30, v31, v32, v33, v34, v35, v36, v37, v38, v39, v40, v41, v42, v43, v44, v45, v46, v47])), (h1, .inl (cI, 2, .inl (fun _ => 0)))] sz)) (va_A [(h0, .inr (11, [v0, v1, v2, v3, v4, v5, v6, v7, v8, v9, v10, v11, v12, v13, v14, v15, .ref h1, v16, v17, v18, .int 0, v19, v20, v21, v22, v23, v24, v25, v26, v27, v28, v29, v30, v31, v32, v33, v34, v35, v36, v37, v38, v39, v40, v41, v42, v43, v44, v45, v46, v47])), (h1, .inl (cI, 2, .inl (fun _ => 0)))] sz)) 0 0 (va_A [(h0, .inr (11, [v0, v1, v2, v3, v4, v5, v6, v7, v8, v9, v10, v11, v12, v13, v14, v15, .ref h1, v16, v17, v18, .int 0, v19, v20, v21, v22, v23, v24, v25, v26, v27, v28, v29, v30, v31, v32, v33, v34, v35, v36, v37, v38, v39, v40, v41, v42, v43, v44, v45, v46, v47])), (h1, .inl (cI, 2, .inl (fun _ => 0)))] sz) := by
  refine Met.ofW (cc := cX12_quarrel) (maxL := 2) (ret := (some .int)) (by decide) rfl ?_
  intro p e s m args below meth c s₁ B hml hv
  obtain ⟨rfl, hsz, hP, hK, hN, hD0⟩ := hv
  have hx := B.exec
  have hb := B.bytes
  have hr := B.returns
  have hts := atoms_spec (ws := u_X12_quarrel) B.pre
  have hown : s.vm.findClass RX12 = some m.cls := findClass_of_methodNamed B.named
  have hlocks := B.notSynchronized
  subst hsz
  have hD := hD0.self (sz := s.heap.size)
  generalize hAe : va_A [(h0, .inr (11, [v0, v1, v2, v3, v4, v5, v6, v7, v8, v9, v10, v11, v12, v13, v14, v15, .ref h1, v16, v17, v18, .int 0, v19, v20, v21, v22, v23, v24, v25, v26, v27, v28, v29, v30, v31, v32, v33, v34, v35, v36, v37, v38, v39, v40, v41, v42, v43, v44, v45, v46, v47])), (h1, .inl (cI, 2, .inl (fun _ => 0)))] s.heap.size = A at hD ⊢
  have hA : ∀ q : Nat, s.heap.size ≤ q → A q := fun q h => by rw [← hAe]; exact Or.inr h
  have hS : va_S A s.heap s.heap [] := va_S.rf
  have hP : va_P D vwCl [(h0, .inr (11, [v0, v1, v2, v3, v4, v5, v6, v7, v8, v9, v10, v11, v12, v13, v14, v15, .ref h1, v16, v17, v18, .int 0, v19, v20, v21, v22, v23, v24, v25, v26, v27, v28, v29, v30, v31, v32, v33, v34, v35, v36, v37, v38, v39, v40, v41, v42, v43, v44, v45, v46, v47])), (h1, .inl (cI, 2, .inl (fun _ => 0)))] s.heap := hP
  have hl := lv_entry ([.ref h0, .int p1]) (n := 2) (Nat.le_of_ble_eq_true rfl)
  rw [lg_entry_eq]
  generalize (lg_sl ([.ref h0, .int p1]) ++ List.replicate (2 - (lg_sl ([.ref h0, .int p1])).length) Slot.unset).toArray = ls at hl ⊢
  have hl : lv_has ls 2 [(0, .ref h0), (1, .int p1)] := hl
  obtain ⟨H, hHe⟩ : ∃ H, s.heap = H := ⟨_, rfl⟩
  have hP : va_P D vwCl [(h0, .inr (11, [v0, v1, v2, v3, v4, v5, v6, v7, v8, v9, v10, v11, v12, v13, v14, v15, .ref h1, v16, v17, v18, .int 0, v19, v20, v21, v22, v23, v24, v25, v26, v27, v28, v29, v30, v31, v32, v33, v34, v35, v36, v37, v38, v39, v40, v41, v42, v43, v44, v45, v46, v47])), (h1, .inl (cI, 2, .inl (fun _ => 0)))] H := by rw [← hHe]; exact hP
  have hS : va_S A s.heap H [] := by rw [← hHe]; exact hS
  refine kn_heap hHe ?_
  refine lv_aload_n hx hb dX12_quarrel_0 rfl (lv_at hl 0 rfl) ?_
  refine lv_iload_n hx hb dX12_quarrel_1 rfl (lv_at hl 1 rfl) ?_
  have hPc := hP.sub (ws' := [(h0, .inr (11, [v0, v1, v2, v3, v4, v5, v6, v7, v8, v9, v10, v11, v12, v13, v14, v15, .ref h1, v16, v17, v18, .int 0, v19, v20, v21, v22, v23, v24, v25, v26, v27, v28, v29, v30, v31, v32, v33, v34, v35, v36, v37, v38, v39, v40, v41, v42, v43, v44, v45, v46, v47])), (h1, .inl (cI, 2, .inl (fun _ => 0)))]) [0, 1] rfl
  have hDc := hD.sub (ws' := [(h0, .inr (11, [v0, v1, v2, v3, v4, v5, v6, v7, v8, v9, v10, v11, v12, v13, v14, v15, .ref h1, v16, v17, v18, .int 0, v19, v20, v21, v22, v23, v24, v25, v26, v27, v28, v29, v30, v31, v32, v33, v34, v35, v36, v37, v38, v39, v40, v41, v42, v43, v44, v45, v46, v47])), (h1, .inl (cI, 2, .inl (fun _ => 0)))]) [0, 1] (by decide) rfl
  refine kn_callv (wr := []) (cells' := 0) (slots' := 0) (va_runV (As := [.int p1]) (rest := []) ⟨hx, hb, hml, hown, hts⟩ (c_X12_seekQuarrels_k1 l D cI cJ cZ cB H.size h0 h1 v0 v1 v2 v3 v4 v5 v6 v7 v8 v9 v10 v11 v12 v13 v14 v15 v16 v17 v18 v19 v20 v21 v22 v23 v24 v25 v26 v27 v28 v29 v30 v31 v32 v33 v34 v35 v36 v37 v38 v39 v40 v41 v42 v43 v44 v45 v46 v47 p1) (cwV 1 hts (goodIn_app (goodIn_of _ (by decide +kernel)) gs_X12_quarrel__X12_seekQuarrels_k1) rfl rfl rfl (by decide +kernel) ⟨(Nat.le_of_ble_eq_true rfl), (Nat.le_of_ble_eq_true rfl)⟩) (kp_V 0 11 rfl rfl hPc hK hN hDc) rfl rfl hl.1 rfl (lv_room (Nat.le_of_ble_eq_true rfl)) dX12_quarrel_2 ⟨(Nat.le_of_ble_eq_true rfl), (Nat.le_of_ble_eq_true rfl)⟩) hS hA hP hD [0, 1] [] rfl rfl (by decide) (by decide) (Nat.le_of_ble_eq_true rfl) (Nat.le_of_ble_eq_true rfl) (fun u H locs hw_737 hP hD hS => ?_)
  have hP : va_P D vwCl [(h0, .inr (11, [v0, v1, v2, v3, v4, v5, v6, v7, v8, v9, v10, v11, v12, v13, v14, v15, .ref h1, v16, v17, v18, .int 0, v19, v20, v21, v22, v23, v24, v25, v26, v27, v28, v29, v30, v31, v32, v33, v34, v35, v36, v37, v38, v39, v40, v41, v42, v43, v44, .int 0, .int (-1), .long 0])), (h1, .inl (cI, 2, .inl (fun _ => 0)))] H := hP
  have hD : va_D A [(h0, .inr (11, [v0, v1, v2, v3, v4, v5, v6, v7, v8, v9, v10, v11, v12, v13, v14, v15, .ref h1, v16, v17, v18, .int 0, v19, v20, v21, v22, v23, v24, v25, v26, v27, v28, v29, v30, v31, v32, v33, v34, v35, v36, v37, v38, v39, v40, v41, v42, v43, v44, .int 0, .int (-1), .long 0])), (h1, .inl (cI, 2, .inl (fun _ => 0)))] := hD
  refine lv_aload_n hx hb dX12_quarrel_5 rfl (lv_at hl 0 rfl) ?_
  refine va_get (D := D) (ci := 11) (v := .int (-1)) (C := RX12) (T := TX12) (N := 50) hx hb hts inw_X12_quarrel_X12 hown hK hP 0 rfl rfl 48 (by decide) (hts (.fieldLink RX12 300 "EarTableModel" "quarrelAt" "I") (by decide +kernel)) (fun _ h9 => h9) rfl dX12_quarrel_6 ?_
  have hP9 := hP.sub (ws' := [(h0, .inr (11, [v0, v1, v2, v3, v4, v5, v6, v7, v8, v9, v10, v11, v12, v13, v14, v15, .ref h1, v16, v17, v18, .int 0, v19, v20, v21, v22, v23, v24, v25, v26, v27, v28, v29, v30, v31, v32, v33, v34, v35, v36, v37, v38, v39, v40, v41, v42, v43, v44, .int 0, .int (-1), .long 0])), (h1, .inl (cI, 2, .inl (fun _ => 0)))]) [0, 1] rfl
  have hD9 := hD.sub (ws' := [(h0, .inr (11, [v0, v1, v2, v3, v4, v5, v6, v7, v8, v9, v10, v11, v12, v13, v14, v15, .ref h1, v16, v17, v18, .int 0, v19, v20, v21, v22, v23, v24, v25, v26, v27, v28, v29, v30, v31, v32, v33, v34, v35, v36, v37, v38, v39, v40, v41, v42, v43, v44, .int 0, .int (-1), .long 0])), (h1, .inl (cI, 2, .inl (fun _ => 0)))]) [0, 1] (by decide) rfl
  exact W.iret (v := (-1)) hx hb hr (fun t ht hW => ⟨⟨(-1), (), rfl, rfl, by rw [ht]; exact hP9, hD9⟩, hS.F ht⟩) hS.2.2 dX12_quarrel_9
def o_X11_right : List Cond := [.fieldLink RX11 28 "EarTable" "grid" "LEarTable$Grid;", .methodLink RX11 236 yX1_quarrelSpot, .instanceMethod yX1_quarrelSpot, .selects RX1 yX1_quarrelSpot yX1_quarrelSpot, .initialized RX1]
def u_X11_right : List Cond := .code yX11_right cX11_right 3 (some .long) :: (o_X11_right ++ (u_X1_quarrelSpot ++ (wsX110 ++ ([] : List Cond))))
theorem gs_X11_right__X1_quarrelSpot : GoodIn u_X11_right u_X1_quarrelSpot := goodIn_sub (fun w h => List.mem_cons_of_mem _ (List.mem_append_right _ (List.mem_append_left _ h))) good_X1_quarrelSpot
theorem inw_X11_right_X11 : ∀ w ∈ wsX110, w ∈ u_X11_right := fun w h => List.mem_cons_of_mem _ (List.mem_append_right _ (List.mem_append_right _ (List.mem_append_left _ h)))
set_option maxRecDepth 20000 in
theorem good_X11_right : u_X11_right.all goodWord = true := by decide +kernel
set_option maxRecDepth 20000 in
theorem in_X11_right : ∀ w ∈ u_X11_right, w ∈ lw_tbl := ma_cons inc_X11_right (ma_app (ma_pos o_X11_right [386, 807, 808, 809, 68] (by decide +kernel)) (ma_app in_X1_quarrelSpot (ma_app inb_X11 ma_nil)))
set_option maxHeartbeats 4000000 in
set_option maxRecDepth 100000 in
theorem c_X11_right (l : Launch) (D : va_G) (cI cJ cZ cB : ClassId) (sz : Nat) (h0 : Nat) (h1 : Nat) (v0 : Value) (v1 : Value) (v2 : Value) (v3 : Value) (v4 : Value) (v5 : Value) (v6 : Value) (v7 : Value) (v8 : Value) (v9 : Value) (v10 : Value) (v11 : Value) (v12 : Value) (v13 : Value) (v14 : Value) (v15 : Value) (v16 : Value) (v17 : Value) (v18 : Value) (p1 : Int32) : Met l yX11_right u_X11_right ({ frames := 1, cells := 0, slots := 0, locals := 24 }) (va_Pc [.ref h0, .int p1] (kPre D cI cJ cZ cB [(h0, .inr (10, [v0, v1, .ref h1, v2, v3, v4, v5, v6, v7, v8, v9, v10, v11])), (h1, .inr (1, [v12, v13, v14, v15, v16, v17, .int 0, v18]))] sz)) (va_Ql (fun (r : Int64) (_ : Unit) => r = 0) (kB D (fun (u : Unit) => [(h0, .inr (10, [v0, v1, .ref h1, v2, v3, v4, v5, v6, v7, v8, v9, v10, v11])), (h1, .inr (1, [v12, v13, v14, v15, v16, v17, .int 0, v18]))]) (va_A [(h0, .inr (10, [v0, v1, .ref h1, v2, v3, v4, v5, v6, v7, v8, v9, v10, v11])), (h1, .inr (1, [v12, v13, v14, v15, v16, v17, .int 0, v18]))] sz)) (va_A [(h0, .inr (10, [v0, v1, .ref h1, v2, v3, v4, v5, v6, v7, v8, v9, v10, v11])), (h1, .inr (1, [v12, v13, v14, v15, v16, v17, .int 0, v18]))] sz)) 0 0 (va_A [(h0, .inr (10, [v0, v1, .ref h1, v2, v3, v4, v5, v6, v7, v8, v9, v10, v11])), (h1, .inr (1, [v12, v13, v14, v15, v16, v17, .int 0, v18]))] sz) := by
  refine Met.ofW (cc := cX11_right) (maxL := 3) (ret := (some .long)) (by decide) rfl ?_
  intro p e s m args below meth c s₁ B hml hv
  obtain ⟨rfl, hsz, hP, hK, hN, hD0⟩ := hv
  have hx := B.exec
  have hb := B.bytes
  have hr := B.returns
  have hts := atoms_spec (ws := u_X11_right) B.pre
  have hown : s.vm.findClass RX11 = some m.cls := findClass_of_methodNamed B.named
  have hlocks := B.notSynchronized
  subst hsz
  have hD := hD0.self (sz := s.heap.size)
  generalize hAe : va_A [(h0, .inr (10, [v0, v1, .ref h1, v2, v3, v4, v5, v6, v7, v8, v9, v10, v11])), (h1, .inr (1, [v12, v13, v14, v15, v16, v17, .int 0, v18]))] s.heap.size = A at hD ⊢
  have hA : ∀ q : Nat, s.heap.size ≤ q → A q := fun q h => by rw [← hAe]; exact Or.inr h
  have hS : va_S A s.heap s.heap [] := va_S.rf
  have hP : va_P D vwCl [(h0, .inr (10, [v0, v1, .ref h1, v2, v3, v4, v5, v6, v7, v8, v9, v10, v11])), (h1, .inr (1, [v12, v13, v14, v15, v16, v17, .int 0, v18]))] s.heap := hP
  have hl := lv_entry ([.ref h0, .int p1]) (n := 3) (Nat.le_of_ble_eq_true rfl)
  rw [lg_entry_eq]
  generalize (lg_sl ([.ref h0, .int p1]) ++ List.replicate (3 - (lg_sl ([.ref h0, .int p1])).length) Slot.unset).toArray = ls at hl ⊢
  have hl : lv_has ls 3 [(0, .ref h0), (1, .int p1)] := hl
  obtain ⟨H, hHe⟩ : ∃ H, s.heap = H := ⟨_, rfl⟩
  have hP : va_P D vwCl [(h0, .inr (10, [v0, v1, .ref h1, v2, v3, v4, v5, v6, v7, v8, v9, v10, v11])), (h1, .inr (1, [v12, v13, v14, v15, v16, v17, .int 0, v18]))] H := by rw [← hHe]; exact hP
  have hS : va_S A s.heap H [] := by rw [← hHe]; exact hS
  refine kn_heap hHe ?_
  refine lv_aload_n hx hb dX11_right_0 rfl (lv_at hl 0 rfl) ?_
  refine va_get (D := D) (ci := 10) (v := .ref h1) (C := RX11) (T := TX11) (N := 13) hx hb hts inw_X11_right_X11 hown hK hP 0 rfl rfl 2 (by decide) (hts (.fieldLink RX11 28 "EarTable" "grid" "LEarTable$Grid;") (by decide +kernel)) (fun _ h9 => h9) rfl dX11_right_1 ?_
  refine lv_iload_n hx hb dX11_right_4 rfl (lv_at hl 1 rfl) ?_
  have hPc := hP.sub (ws' := [(h1, .inr (1, [v12, v13, v14, v15, v16, v17, .int 0, v18]))]) [1] rfl
  have hDc := hD.sub (ws' := [(h1, .inr (1, [v12, v13, v14, v15, v16, v17, .int 0, v18]))]) [1] (by decide) rfl
  refine kn_calli (wr := [(h0, .inr (10, [v0, v1, .ref h1, v2, v3, v4, v5, v6, v7, v8, v9, v10, v11]))]) (cells' := 0) (slots' := 0) (va_runV (As := [.int p1]) (rest := []) ⟨hx, hb, hml, hown, hts⟩ (c_X1_quarrelSpot l D cI cJ cZ cB H.size h1 v12 v13 v14 v15 v16 v17 v18 p1) (cwV 1 hts (goodIn_app (goodIn_of _ (by decide +kernel)) gs_X11_right__X1_quarrelSpot) rfl rfl rfl (by decide +kernel) ⟨(Nat.le_of_ble_eq_true rfl), (Nat.le_of_ble_eq_true rfl)⟩) (kp_V 0 1 rfl rfl hPc hK hN hDc) rfl rfl hl.1 rfl (lv_room (Nat.le_of_ble_eq_true rfl)) dX11_right_5 ⟨(Nat.le_of_ble_eq_true rfl), (Nat.le_of_ble_eq_true rfl)⟩) hS hA hP hD [1] [0] rfl rfl (by decide) (by decide) (Nat.le_of_ble_eq_true rfl) (Nat.le_of_ble_eq_true rfl) (fun r_741 u H locs hw_742 hP hD hS => ?_)
  have hP : va_P D vwCl [(h0, .inr (10, [v0, v1, .ref h1, v2, v3, v4, v5, v6, v7, v8, v9, v10, v11])), (h1, .inr (1, [v12, v13, v14, v15, v16, v17, .int 0, v18]))] H := hP
  have hD : va_D A [(h0, .inr (10, [v0, v1, .ref h1, v2, v3, v4, v5, v6, v7, v8, v9, v10, v11])), (h1, .inr (1, [v12, v13, v14, v15, v16, v17, .int 0, v18]))] := hD
  subst hw_742
  refine lv_istore_n (lv' := [(2, .int (-1)), (0, .ref h0), (1, .int p1)]) hx hb dX11_right_8 rfl hl (by decide) rfl (fun ls hl => ?_)
  refine lv_iload_n hx hb dX11_right_9 rfl (lv_at hl 0 rfl) ?_
  refine lv_iconst (v := (-1)) hx hb dX11_right_10 (by decide) ?_
  refine lv_icmp_ne (tgt := 18) hx hb dX11_right_11 (by decide) (fun c_743 => ?_) (fun c_743 => ?_)
  · skip
    exact absurd rfl c_743
  · skip
    refine lv_lconst (v := 0) hx hb dX11_right_14 (by decide) ?_
    refine lv_goto (tgt := 33) hx hb dX11_right_15 (by decide) ?_
    have hP9 := hP.sub (ws' := [(h0, .inr (10, [v0, v1, .ref h1, v2, v3, v4, v5, v6, v7, v8, v9, v10, v11])), (h1, .inr (1, [v12, v13, v14, v15, v16, v17, .int 0, v18]))]) [0, 1] rfl
    have hD9 := hD.sub (ws' := [(h0, .inr (10, [v0, v1, .ref h1, v2, v3, v4, v5, v6, v7, v8, v9, v10, v11])), (h1, .inr (1, [v12, v13, v14, v15, v16, v17, .int 0, v18]))]) [0, 1] (by decide) rfl
    exact W.lret (v := 0) hx hb hr (fun t ht hW => ⟨⟨0, (), rfl, rfl, by rw [ht]; exact hP9, hD9⟩, hS.F ht⟩) hS.2.2 dX11_right_33
def o_X12_right : List Cond := [.methodLink RX12 310 yX12_seekQuarrels, .instanceMethod yX12_seekQuarrels, .selects RX12 yX12_seekQuarrels yX12_seekQuarrels, .initialized RX12, .fieldLink RX12 303 "EarTableModel" "quarrelRight" "J"]
def u_X12_right : List Cond := .code yX12_right cX12_right 2 (some .long) :: (o_X12_right ++ (u_X12_seekQuarrels_k1 ++ (wsX120 ++ ([] : List Cond))))
theorem gs_X12_right__X12_seekQuarrels_k1 : GoodIn u_X12_right u_X12_seekQuarrels_k1 := goodIn_sub (fun w h => List.mem_cons_of_mem _ (List.mem_append_right _ (List.mem_append_left _ h))) good_X12_seekQuarrels_k1
theorem inw_X12_right_X12 : ∀ w ∈ wsX120, w ∈ u_X12_right := fun w h => List.mem_cons_of_mem _ (List.mem_append_right _ (List.mem_append_right _ (List.mem_append_left _ h)))
set_option maxRecDepth 20000 in
theorem good_X12_right : u_X12_right.all goodWord = true := by decide +kernel
set_option maxRecDepth 20000 in
theorem in_X12_right : ∀ w ∈ u_X12_right, w ∈ lw_tbl := ma_cons inc_X12_right (ma_app (ma_pos o_X12_right [1236, 1238, 59, 76, 1025] (by decide +kernel)) (ma_app in_X12_seekQuarrels_k1 (ma_app inb_X12 ma_nil)))
set_option maxHeartbeats 4000000 in
set_option maxRecDepth 100000 in
theorem c_X12_right (l : Launch) (D : va_G) (cI cJ cZ cB : ClassId) (sz : Nat) (h0 : Nat) (h1 : Nat) (v0 : Value) (v1 : Value) (v2 : Value) (v3 : Value) (v4 : Value) (v5 : Value) (v6 : Value) (v7 : Value) (v8 : Value) (v9 : Value) (v10 : Value) (v11 : Value) (v12 : Value) (v13 : Value) (v14 : Value) (v15 : Value) (v16 : Value) (v17 : Value) (v18 : Value) (v19 : Value) (v20 : Value) (v21 : Value) (v22 : Value) (v23 : Value) (v24 : Value) (v25 : Value) (v26 : Value) (v27 : Value) (v28 : Value) (v29 : Value) (v30 : Value) (v31 : Value) (v32 : Value) (v33 : Value) (v34 : Value) (v35 : Value) (v36 : Value) (v37 : Value) (v38 : Value) (v39 : Value) (v40 : Value) (v41 : Value) (v42 : Value) (v43 : Value) (v44 : Value) (v45 : Value) (v46 : Value) (v47 : Value) (p1 : Int32) : Met l yX12_right u_X12_right ({ frames := 1, cells := 0, slots := 0, locals := 24 }) (va_Pc [.ref h0, .int p1] (kPre D cI cJ cZ cB [(h0, .inr (11, [v0, v1, v2, v3, v4, v5, v6, v7, v8, v9, v10, v11, v12, v13, v14, v15, .ref h1, v16, v17, v18, .int 0, v19, v20, v21, v22, v23, v24, v25, v26, v27, v28, v29, v30, v31, v32, v33, v34, v35, v36, v37, v38, v39, v40, v41, v42, v43, v44, v45, v46, v47])), (h1, .inl (cI, 2, .inl (fun _ => 0)))] sz)) (va_Ql (fun (r : Int64) (_ : Unit) => r = 0) (kB D (fun (u : Unit) => [(h0, .inr (11, [v0, v1, v2, v3, v4, v5, v6, v7, v8, v9, v10, v11, v12, v13, v14, v15, .ref h1, v16, v17, v18, .int 0, v19, v20, v21, v22, v23, v24, v25, v26, v27, v28, v29, v30, v31, v32, v33, v34, v35, v36, v37, v38, v39, v40, v41, v42, v43, v44, .int 0, .int (-1), .long 0])), (h1, .inl (cI, 2, .inl (fun _ => 0)))]) (va_A [(h0, .inr (11, [v0, v1, v2, v3, v4, v5, v6, v7, v8, v9, v10, v11, v12, v13, v14, v15, .ref h1, v16, v17, v18, .int 0, v19, v20, v21, v22, v23, v24, v25, v26, v27, v28, v29, v30, v31, v32, v33, v34, v35, v36, v37, v38, v39, v40, v41, v42, v43, v44, v45, v46, v47])), (h1, .inl (cI, 2, .inl (fun _ => 0)))] sz)) (va_A [(h0, .inr (11, [v0, v1, v2, v3, v4, v5, v6, v7, v8, v9, v10, v11, v12, v13, v14, v15, .ref h1, v16, v17, v18, .int 0, v19, v20, v21, v22, v23, v24, v25, v26, v27, v28, v29, v30, v31, v32, v33, v34, v35, v36, v37, v38, v39, v40, v41, v42, v43, v44, v45, v46, v47])), (h1, .inl (cI, 2, .inl (fun _ => 0)))] sz)) 0 0 (va_A [(h0, .inr (11, [v0, v1, v2, v3, v4, v5, v6, v7, v8, v9, v10, v11, v12, v13, v14, v15, .ref h1, v16, v17, v18, .int 0, v19, v20, v21, v22, v23, v24, v25, v26, v27, v28, v29, v30, v31, v32, v33, v34, v35, v36, v37, v38, v39, v40, v41, v42, v43, v44, v45, v46, v47])), (h1, .inl (cI, 2, .inl (fun _ => 0)))] sz) := by
  refine Met.ofW (cc := cX12_right) (maxL := 2) (ret := (some .long)) (by decide) rfl ?_
  intro p e s m args below meth c s₁ B hml hv
  obtain ⟨rfl, hsz, hP, hK, hN, hD0⟩ := hv
  have hx := B.exec
  have hb := B.bytes
  have hr := B.returns
  have hts := atoms_spec (ws := u_X12_right) B.pre
  have hown : s.vm.findClass RX12 = some m.cls := findClass_of_methodNamed B.named
  have hlocks := B.notSynchronized
  subst hsz
  have hD := hD0.self (sz := s.heap.size)
  generalize hAe : va_A [(h0, .inr (11, [v0, v1, v2, v3, v4, v5, v6, v7, v8, v9, v10, v11, v12, v13, v14, v15, .ref h1, v16, v17, v18, .int 0, v19, v20, v21, v22, v23, v24, v25, v26, v27, v28, v29, v30, v31, v32, v33, v34, v35, v36, v37, v38, v39, v40, v41, v42, v43, v44, v45, v46, v47])), (h1, .inl (cI, 2, .inl (fun _ => 0)))] s.heap.size = A at hD ⊢
  have hA : ∀ q : Nat, s.heap.size ≤ q → A q := fun q h => by rw [← hAe]; exact Or.inr h
  have hS : va_S A s.heap s.heap [] := va_S.rf
  have hP : va_P D vwCl [(h0, .inr (11, [v0, v1, v2, v3, v4, v5, v6, v7, v8, v9, v10, v11, v12, v13, v14, v15, .ref h1, v16, v17, v18, .int 0, v19, v20, v21, v22, v23, v24, v25, v26, v27, v28, v29, v30, v31, v32, v33, v34, v35, v36, v37, v38, v39, v40, v41, v42, v43, v44, v45, v46, v47])), (h1, .inl (cI, 2, .inl (fun _ => 0)))] s.heap := hP
  have hl := lv_entry ([.ref h0, .int p1]) (n := 2) (Nat.le_of_ble_eq_true rfl)
  rw [lg_entry_eq]
  generalize (lg_sl ([.ref h0, .int p1]) ++ List.replicate (2 - (lg_sl ([.ref h0, .int p1])).length) Slot.unset).toArray = ls at hl ⊢
  have hl : lv_has ls 2 [(0, .ref h0), (1, .int p1)] := hl
  obtain ⟨H, hHe⟩ : ∃ H, s.heap = H := ⟨_, rfl⟩
  have hP : va_P D vwCl [(h0, .inr (11, [v0, v1, v2, v3, v4, v5, v6, v7, v8, v9, v10, v11, v12, v13, v14, v15, .ref h1, v16, v17, v18, .int 0, v19, v20, v21, v22, v23, v24, v25, v26, v27, v28, v29, v30, v31, v32, v33, v34, v35, v36, v37, v38, v39, v40, v41, v42, v43, v44, v45, v46, v47])), (h1, .inl (cI, 2, .inl (fun _ => 0)))] H := by rw [← hHe]; exact hP
  have hS : va_S A s.heap H [] := by rw [← hHe]; exact hS
  refine kn_heap hHe ?_
  refine lv_aload_n hx hb dX12_right_0 rfl (lv_at hl 0 rfl) ?_
  refine lv_iload_n hx hb dX12_right_1 rfl (lv_at hl 1 rfl) ?_
  have hPc := hP.sub (ws' := [(h0, .inr (11, [v0, v1, v2, v3, v4, v5, v6, v7, v8, v9, v10, v11, v12, v13, v14, v15, .ref h1, v16, v17, v18, .int 0, v19, v20, v21, v22, v23, v24, v25, v26, v27, v28, v29, v30, v31, v32, v33, v34, v35, v36, v37, v38, v39, v40, v41, v42, v43, v44, v45, v46, v47])), (h1, .inl (cI, 2, .inl (fun _ => 0)))]) [0, 1] rfl
  have hDc := hD.sub (ws' := [(h0, .inr (11, [v0, v1, v2, v3, v4, v5, v6, v7, v8, v9, v10, v11, v12, v13, v14, v15, .ref h1, v16, v17, v18, .int 0, v19, v20, v21, v22, v23, v24, v25, v26, v27, v28, v29, v30, v31, v32, v33, v34, v35, v36, v37, v38, v39, v40, v41, v42, v43, v44, v45, v46, v47])), (h1, .inl (cI, 2, .inl (fun _ => 0)))]) [0, 1] (by decide) rfl
  refine kn_callv (wr := []) (cells' := 0) (slots' := 0) (va_runV (As := [.int p1]) (rest := []) ⟨hx, hb, hml, hown, hts⟩ (c_X12_seekQuarrels_k1 l D cI cJ cZ cB H.size h0 h1 v0 v1 v2 v3 v4 v5 v6 v7 v8 v9 v10 v11 v12 v13 v14 v15 v16 v17 v18 v19 v20 v21 v22 v23 v24 v25 v26 v27 v28 v29 v30 v31 v32 v33 v34 v35 v36 v37 v38 v39 v40 v41 v42 v43 v44 v45 v46 v47 p1) (cwV 1 hts (goodIn_app (goodIn_of _ (by decide +kernel)) gs_X12_right__X12_seekQuarrels_k1) rfl rfl rfl (by decide +kernel) ⟨(Nat.le_of_ble_eq_true rfl), (Nat.le_of_ble_eq_true rfl)⟩) (kp_V 0 11 rfl rfl hPc hK hN hDc) rfl rfl hl.1 rfl (lv_room (Nat.le_of_ble_eq_true rfl)) dX12_right_2 ⟨(Nat.le_of_ble_eq_true rfl), (Nat.le_of_ble_eq_true rfl)⟩) hS hA hP hD [0, 1] [] rfl rfl (by decide) (by decide) (Nat.le_of_ble_eq_true rfl) (Nat.le_of_ble_eq_true rfl) (fun u H locs hw_746 hP hD hS => ?_)
  have hP : va_P D vwCl [(h0, .inr (11, [v0, v1, v2, v3, v4, v5, v6, v7, v8, v9, v10, v11, v12, v13, v14, v15, .ref h1, v16, v17, v18, .int 0, v19, v20, v21, v22, v23, v24, v25, v26, v27, v28, v29, v30, v31, v32, v33, v34, v35, v36, v37, v38, v39, v40, v41, v42, v43, v44, .int 0, .int (-1), .long 0])), (h1, .inl (cI, 2, .inl (fun _ => 0)))] H := hP
  have hD : va_D A [(h0, .inr (11, [v0, v1, v2, v3, v4, v5, v6, v7, v8, v9, v10, v11, v12, v13, v14, v15, .ref h1, v16, v17, v18, .int 0, v19, v20, v21, v22, v23, v24, v25, v26, v27, v28, v29, v30, v31, v32, v33, v34, v35, v36, v37, v38, v39, v40, v41, v42, v43, v44, .int 0, .int (-1), .long 0])), (h1, .inl (cI, 2, .inl (fun _ => 0)))] := hD
  refine lv_aload_n hx hb dX12_right_5 rfl (lv_at hl 0 rfl) ?_
  refine va_get (D := D) (ci := 11) (v := .long 0) (C := RX12) (T := TX12) (N := 50) hx hb hts inw_X12_right_X12 hown hK hP 0 rfl rfl 49 (by decide) (hts (.fieldLink RX12 303 "EarTableModel" "quarrelRight" "J") (by decide +kernel)) (fun _ h9 => h9) rfl dX12_right_6 ?_
  have hP9 := hP.sub (ws' := [(h0, .inr (11, [v0, v1, v2, v3, v4, v5, v6, v7, v8, v9, v10, v11, v12, v13, v14, v15, .ref h1, v16, v17, v18, .int 0, v19, v20, v21, v22, v23, v24, v25, v26, v27, v28, v29, v30, v31, v32, v33, v34, v35, v36, v37, v38, v39, v40, v41, v42, v43, v44, .int 0, .int (-1), .long 0])), (h1, .inl (cI, 2, .inl (fun _ => 0)))]) [0, 1] rfl
  have hD9 := hD.sub (ws' := [(h0, .inr (11, [v0, v1, v2, v3, v4, v5, v6, v7, v8, v9, v10, v11, v12, v13, v14, v15, .ref h1, v16, v17, v18, .int 0, v19, v20, v21, v22, v23, v24, v25, v26, v27, v28, v29, v30, v31, v32, v33, v34, v35, v36, v37, v38, v39, v40, v41, v42, v43, v44, .int 0, .int (-1), .long 0])), (h1, .inl (cI, 2, .inl (fun _ => 0)))]) [0, 1] (by decide) rfl
  exact W.lret (v := 0) hx hb hr (fun t ht hW => ⟨⟨0, (), rfl, rfl, by rw [ht]; exact hP9, hD9⟩, hS.F ht⟩) hS.2.2 dX12_right_9
def o_X11_greatest : List Cond := [.fieldLink RX11 28 "EarTable" "grid" "LEarTable$Grid;", .methodLink RX11 144 yX1_hasColumn, .instanceMethod yX1_hasColumn, .selects RX1 yX1_hasColumn yX1_hasColumn, .initialized RX1]
def u_X11_greatest : List Cond := .code yX11_greatest cX11_greatest 2 (some .int) :: (o_X11_greatest ++ (u_X1_hasColumn ++ (wsX110 ++ ([] : List Cond))))
theorem gs_X11_greatest__X1_hasColumn : GoodIn u_X11_greatest u_X1_hasColumn := goodIn_sub (fun w h => List.mem_cons_of_mem _ (List.mem_append_right _ (List.mem_append_left _ h))) good_X1_hasColumn
theorem inw_X11_greatest_X11 : ∀ w ∈ wsX110, w ∈ u_X11_greatest := fun w h => List.mem_cons_of_mem _ (List.mem_append_right _ (List.mem_append_right _ (List.mem_append_left _ h)))
set_option maxRecDepth 20000 in
theorem good_X11_greatest : u_X11_greatest.all goodWord = true := by decide +kernel
set_option maxRecDepth 20000 in
theorem in_X11_greatest : ∀ w ∈ u_X11_greatest, w ∈ lw_tbl := ma_cons inc_X11_greatest (ma_app (ma_pos o_X11_greatest [386, 581, 582, 583, 68] (by decide +kernel)) (ma_app in_X1_hasColumn (ma_app inb_X11 ma_nil)))
set_option maxHeartbeats 4000000 in
set_option maxRecDepth 100000 in
theorem c_X11_greatest (l : Launch) (D : va_G) (cI cJ cZ cB : ClassId) (sz : Nat) (h0 : Nat) (h1 : Nat) (v0 : Value) (v1 : Value) (v2 : Value) (v3 : Value) (v4 : Value) (v5 : Value) (v6 : Value) (v7 : Value) (v8 : Value) (v9 : Value) (v10 : Value) (v11 : Value) (v12 : Value) (v13 : Value) (v14 : Value) (v15 : Value) (v16 : Value) (v17 : Value) (v18 : Value) (p1 : Int32) : Met l yX11_greatest u_X11_greatest ({ frames := 1, cells := 0, slots := 0, locals := 21 }) (va_Pc [.ref h0, .int p1] (kPre D cI cJ cZ cB [(h0, .inr (10, [v0, v1, .ref h1, v2, v3, v4, v5, v6, v7, v8, v9, v10, v11])), (h1, .inr (1, [v12, v13, v14, v15, v16, .int 0, v17, v18]))] sz)) (va_Qi (fun (r : Int32) (_ : Unit) => r = (-1)) (kB D (fun (u : Unit) => [(h0, .inr (10, [v0, v1, .ref h1, v2, v3, v4, v5, v6, v7, v8, v9, v10, v11])), (h1, .inr (1, [v12, v13, v14, v15, v16, .int 0, v17, v18]))]) (va_A [(h0, .inr (10, [v0, v1, .ref h1, v2, v3, v4, v5, v6, v7, v8, v9, v10, v11])), (h1, .inr (1, [v12, v13, v14, v15, v16, .int 0, v17, v18]))] sz)) (va_A [(h0, .inr (10, [v0, v1, .ref h1, v2, v3, v4, v5, v6, v7, v8, v9, v10, v11])), (h1, .inr (1, [v12, v13, v14, v15, v16, .int 0, v17, v18]))] sz)) 0 0 (va_A [(h0, .inr (10, [v0, v1, .ref h1, v2, v3, v4, v5, v6, v7, v8, v9, v10, v11])), (h1, .inr (1, [v12, v13, v14, v15, v16, .int 0, v17, v18]))] sz) := by
  refine Met.ofW (cc := cX11_greatest) (maxL := 2) (ret := (some .int)) (by decide) rfl ?_
  intro p e s m args below meth c s₁ B hml hv
  obtain ⟨rfl, hsz, hP, hK, hN, hD0⟩ := hv
  have hx := B.exec
  have hb := B.bytes
  have hr := B.returns
  have hts := atoms_spec (ws := u_X11_greatest) B.pre
  have hown : s.vm.findClass RX11 = some m.cls := findClass_of_methodNamed B.named
  have hlocks := B.notSynchronized
  subst hsz
  have hD := hD0.self (sz := s.heap.size)
  generalize hAe : va_A [(h0, .inr (10, [v0, v1, .ref h1, v2, v3, v4, v5, v6, v7, v8, v9, v10, v11])), (h1, .inr (1, [v12, v13, v14, v15, v16, .int 0, v17, v18]))] s.heap.size = A at hD ⊢
  have hA : ∀ q : Nat, s.heap.size ≤ q → A q := fun q h => by rw [← hAe]; exact Or.inr h
  have hS : va_S A s.heap s.heap [] := va_S.rf
  have hP : va_P D vwCl [(h0, .inr (10, [v0, v1, .ref h1, v2, v3, v4, v5, v6, v7, v8, v9, v10, v11])), (h1, .inr (1, [v12, v13, v14, v15, v16, .int 0, v17, v18]))] s.heap := hP
  have hl := lv_entry ([.ref h0, .int p1]) (n := 2) (Nat.le_of_ble_eq_true rfl)
  rw [lg_entry_eq]
  generalize (lg_sl ([.ref h0, .int p1]) ++ List.replicate (2 - (lg_sl ([.ref h0, .int p1])).length) Slot.unset).toArray = ls at hl ⊢
  have hl : lv_has ls 2 [(0, .ref h0), (1, .int p1)] := hl
  obtain ⟨H, hHe⟩ : ∃ H, s.heap = H := ⟨_, rfl⟩
  have hP : va_P D vwCl [(h0, .inr (10, [v0, v1, .ref h1, v2, v3, v4, v5, v6, v7, v8, v9, v10, v11])), (h1, .inr (1, [v12, v13, v14, v15, v16, .int 0, v17, v18]))] H := by rw [← hHe]; exact hP
  have hS : va_S A s.heap H [] := by rw [← hHe]; exact hS
  refine kn_heap hHe ?_
  refine lv_aload_n hx hb dX11_greatest_0 rfl (lv_at hl 0 rfl) ?_
  refine va_get (D := D) (ci := 10) (v := .ref h1) (C := RX11) (T := TX11) (N := 13) hx hb hts inw_X11_greatest_X11 hown hK hP 0 rfl rfl 2 (by decide) (hts (.fieldLink RX11 28 "EarTable" "grid" "LEarTable$Grid;") (by decide +kernel)) (fun _ h9 => h9) rfl dX11_greatest_1 ?_
  refine lv_iload_n hx hb dX11_greatest_4 rfl (lv_at hl 1 rfl) ?_
  have hPc := hP.sub (ws' := [(h1, .inr (1, [v12, v13, v14, v15, v16, .int 0, v17, v18]))]) [1] rfl
  have hDc := hD.sub (ws' := [(h1, .inr (1, [v12, v13, v14, v15, v16, .int 0, v17, v18]))]) [1] (by decide) rfl
  refine kn_calli (wr := [(h0, .inr (10, [v0, v1, .ref h1, v2, v3, v4, v5, v6, v7, v8, v9, v10, v11]))]) (cells' := 0) (slots' := 0) (va_runV (As := [.int p1]) (rest := []) ⟨hx, hb, hml, hown, hts⟩ (c_X1_hasColumn l D cI cJ cZ cB H.size h1 v12 v13 v14 v15 v16 v17 v18 p1) (cwV 1 hts (goodIn_app (goodIn_of _ (by decide +kernel)) gs_X11_greatest__X1_hasColumn) rfl rfl rfl (by decide +kernel) ⟨(Nat.le_of_ble_eq_true rfl), (Nat.le_of_ble_eq_true rfl)⟩) (kp_V 0 1 rfl rfl hPc hK hN hDc) rfl rfl hl.1 rfl (lv_room (Nat.le_of_ble_eq_true rfl)) dX11_greatest_5 ⟨(Nat.le_of_ble_eq_true rfl), (Nat.le_of_ble_eq_true rfl)⟩) hS hA hP hD [1] [0] rfl rfl (by decide) (by decide) (Nat.le_of_ble_eq_true rfl) (Nat.le_of_ble_eq_true rfl) (fun r_750 u H locs hw_751 hP hD hS => ?_)
  have hP : va_P D vwCl [(h0, .inr (10, [v0, v1, .ref h1, v2, v3, v4, v5, v6, v7, v8, v9, v10, v11])), (h1, .inr (1, [v12, v13, v14, v15, v16, .int 0, v17, v18]))] H := hP
  have hD : va_D A [(h0, .inr (10, [v0, v1, .ref h1, v2, v3, v4, v5, v6, v7, v8, v9, v10, v11])), (h1, .inr (1, [v12, v13, v14, v15, v16, .int 0, v17, v18]))] := hD
  subst hw_751
  refine lv_if_eq (tgt := 22) hx hb dX11_greatest_8 (by decide) (fun c_752 => ?_) (fun c_752 => ?_)
  · skip
    refine lv_iconst (v := (-1)) hx hb dX11_greatest_22 (by decide) ?_
    have hP9 := hP.sub (ws' := [(h0, .inr (10, [v0, v1, .ref h1, v2, v3, v4, v5, v6, v7, v8, v9, v10, v11])), (h1, .inr (1, [v12, v13, v14, v15, v16, .int 0, v17, v18]))]) [0, 1] rfl
    have hD9 := hD.sub (ws' := [(h0, .inr (10, [v0, v1, .ref h1, v2, v3, v4, v5, v6, v7, v8, v9, v10, v11])), (h1, .inr (1, [v12, v13, v14, v15, v16, .int 0, v17, v18]))]) [0, 1] (by decide) rfl
    exact W.iret (v := (-1)) hx hb hr (fun t ht hW => ⟨⟨(-1), (), rfl, rfl, by rw [ht]; exact hP9, hD9⟩, hS.F ht⟩) hS.2.2 dX11_greatest_23
  · skip
    exact absurd rfl c_752
