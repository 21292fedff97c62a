def o_X11_undo : List Cond := [.fieldLink RX11 76 "EarTable" "changes" "LEarTable$Changes;", .methodLink RX11 223 yX0_takeBackLatest, .instanceMethod yX0_takeBackLatest, .selects RX0 yX0_takeBackLatest yX0_takeBackLatest, .initialized RX0]
def u_X11_undo : List Cond := .code yX11_undo cX11_undo 2 (some .boolean) :: (o_X11_undo ++ (u_X0_takeBackLatest ++ (wsX110 ++ ([] : List Cond))))
theorem gs_X11_undo__X0_takeBackLatest : GoodIn u_X11_undo u_X0_takeBackLatest := goodIn_sub (fun w h => List.mem_cons_of_mem _ (List.mem_append_right _ (List.mem_append_left _ h))) good_X0_takeBackLatest
theorem inw_X11_undo_X11 : ∀ w ∈ wsX110, w ∈ u_X11_undo := fun w h => List.mem_cons_of_mem _ (List.mem_append_right _ (List.mem_append_right _ (List.mem_append_left _ h)))
set_option maxRecDepth 20000 in
theorem good_X11_undo : u_X11_undo.all goodWord = true := by decide +kernel
set_option maxRecDepth 20000 in
theorem in_X11_undo : ∀ w ∈ u_X11_undo, w ∈ lw_tbl := ma_cons inc_X11_undo (ma_app (ma_pos o_X11_undo [392, 781, 782, 783, 74] (by decide +kernel)) (ma_app in_X0_takeBackLatest (ma_app inb_X11 ma_nil)))
set_option maxHeartbeats 4000000 in
set_option maxRecDepth 100000 in
theorem c_X11_undo (l : Launch) (D : va_G) (cI cJ cZ cB : ClassId) (sz : Nat) (h0 : Nat) (h1 : Nat) (v0 : Value) (v1 : Value) (v2 : Value) (v3 : Value) (v4 : Value) (v5 : Value) (v6 : Value) (v7 : Value) (v8 : Value) (v9 : Value) (v10 : Value) (v11 : Value) (v12 : Value) (v13 : Value) (v14 : Value) (v15 : Value) : Met l yX11_undo u_X11_undo ({ frames := 1, cells := 0, slots := 0, locals := 21 }) (va_Pc [.ref h0] (kPre D cI cJ cZ cB [(h0, .inr (10, [v0, v1, v2, v3, v4, v5, v6, v7, .ref h1, v8, v9, v10, v11])), (h1, .inr (0, [v12, v13, v14, v15, .int 0]))] sz)) (va_Qi (fun (r : Int32) (_ : Unit) => r = 0) (kB D (fun (u : Unit) => [(h0, .inr (10, [v0, v1, v2, v3, v4, v5, v6, v7, .ref h1, v8, v9, v10, v11])), (h1, .inr (0, [v12, v13, v14, v15, .int 0]))]) (va_A [(h0, .inr (10, [v0, v1, v2, v3, v4, v5, v6, v7, .ref h1, v8, v9, v10, v11])), (h1, .inr (0, [v12, v13, v14, v15, .int 0]))] sz)) (va_A [(h0, .inr (10, [v0, v1, v2, v3, v4, v5, v6, v7, .ref h1, v8, v9, v10, v11])), (h1, .inr (0, [v12, v13, v14, v15, .int 0]))] sz)) 0 0 (va_A [(h0, .inr (10, [v0, v1, v2, v3, v4, v5, v6, v7, .ref h1, v8, v9, v10, v11])), (h1, .inr (0, [v12, v13, v14, v15, .int 0]))] sz) := by
  refine Met.ofW (cc := cX11_undo) (maxL := 2) (ret := (some .boolean)) (by decide) rfl ?_
  intro p e s m args below meth c s₁ B hml hv
  obtain ⟨rfl, hsz, hP, hK, hN, hD0⟩ := hv
  have hx := B.exec
  have hb := B.bytes
  have hr := B.returns
  have hts := atoms_spec (ws := u_X11_undo) B.pre
  have hown : s.vm.findClass RX11 = some m.cls := findClass_of_methodNamed B.named
  have hlocks := B.notSynchronized
  subst hsz
  have hD := hD0.self (sz := s.heap.size)
  generalize hAe : va_A [(h0, .inr (10, [v0, v1, v2, v3, v4, v5, v6, v7, .ref h1, v8, v9, v10, v11])), (h1, .inr (0, [v12, v13, v14, v15, .int 0]))] s.heap.size = A at hD ⊢
  have hA : ∀ q : Nat, s.heap.size ≤ q → A q := fun q h => by rw [← hAe]; exact Or.inr h
  have hS : va_S A s.heap s.heap [] := va_S.rf
  have hP : va_P D vwCl [(h0, .inr (10, [v0, v1, v2, v3, v4, v5, v6, v7, .ref h1, v8, v9, v10, v11])), (h1, .inr (0, [v12, v13, v14, v15, .int 0]))] s.heap := hP
  have hl := lv_entry ([.ref h0]) (n := 2) (Nat.le_of_ble_eq_true rfl)
  rw [lg_entry_eq]
  generalize (lg_sl ([.ref h0]) ++ List.replicate (2 - (lg_sl ([.ref h0])).length) Slot.unset).toArray = ls at hl ⊢
  have hl : lv_has ls 2 [(0, .ref h0)] := hl
  obtain ⟨H, hHe⟩ : ∃ H, s.heap = H := ⟨_, rfl⟩
  have hP : va_P D vwCl [(h0, .inr (10, [v0, v1, v2, v3, v4, v5, v6, v7, .ref h1, v8, v9, v10, v11])), (h1, .inr (0, [v12, v13, v14, v15, .int 0]))] H := by rw [← hHe]; exact hP
  have hS : va_S A s.heap H [] := by rw [← hHe]; exact hS
  refine kn_heap hHe ?_
  refine lv_aload_n hx hb dX11_undo_0 rfl (lv_at hl 0 rfl) ?_
  refine va_get (D := D) (ci := 10) (v := .ref h1) (C := RX11) (T := TX11) (N := 13) hx hb hts inw_X11_undo_X11 hown hK hP 0 rfl rfl 8 (by decide) (hts (.fieldLink RX11 76 "EarTable" "changes" "LEarTable$Changes;") (by decide +kernel)) (fun _ h9 => h9) rfl dX11_undo_1 ?_
  have hPc := hP.sub (ws' := [(h1, .inr (0, [v12, v13, v14, v15, .int 0]))]) [1] rfl
  have hDc := hD.sub (ws' := [(h1, .inr (0, [v12, v13, v14, v15, .int 0]))]) [1] (by decide) rfl
  refine kn_calli (wr := [(h0, .inr (10, [v0, v1, v2, v3, v4, v5, v6, v7, .ref h1, v8, v9, v10, v11]))]) (cells' := 0) (slots' := 0) (va_runV (As := []) (rest := []) ⟨hx, hb, hml, hown, hts⟩ (c_X0_takeBackLatest l D cI cJ cZ cB H.size h1 v12 v13 v14 v15) (cwV 0 hts (goodIn_app (goodIn_of _ (by decide +kernel)) gs_X11_undo__X0_takeBackLatest) rfl rfl rfl (by decide +kernel) ⟨(Nat.le_of_ble_eq_true rfl), (Nat.le_of_ble_eq_true rfl)⟩) (kp_V 0 0 rfl rfl hPc hK hN hDc) rfl rfl hl.1 rfl (lv_room (Nat.le_of_ble_eq_true rfl)) dX11_undo_4 ⟨(Nat.le_of_ble_eq_true rfl), (Nat.le_of_ble_eq_true rfl)⟩) hS hA hP hD [1] [0] rfl rfl (by decide) (by decide) (Nat.le_of_ble_eq_true rfl) (Nat.le_of_ble_eq_true rfl) (fun r_716 u H locs hw_717 hP hD hS => ?_)
  have hP : va_P D vwCl [(h0, .inr (10, [v0, v1, v2, v3, v4, v5, v6, v7, .ref h1, v8, v9, v10, v11])), (h1, .inr (0, [v12, v13, v14, v15, .int 0]))] H := hP
  have hD : va_D A [(h0, .inr (10, [v0, v1, v2, v3, v4, v5, v6, v7, .ref h1, v8, v9, v10, v11])), (h1, .inr (0, [v12, v13, v14, v15, .int 0]))] := hD
  subst hw_717
  refine lv_istore_n (lv' := [(1, .int (-1)), (0, .ref h0)]) hx hb dX11_undo_7 rfl hl (by decide) rfl (fun ls hl => ?_)
  refine lv_iload_n hx hb dX11_undo_8 rfl (lv_at hl 0 rfl) ?_
  refine lv_iconst (v := (-1)) hx hb dX11_undo_9 (by decide) ?_
  refine lv_icmp_ne (tgt := 15) hx hb dX11_undo_10 (by decide) (fun c_718 => ?_) (fun c_718 => ?_)
  · skip
    exact absurd rfl c_718
  · skip
    refine lv_iconst (v := 0) hx hb dX11_undo_13 (by decide) ?_
    have hP9 := hP.sub (ws' := [(h0, .inr (10, [v0, v1, v2, v3, v4, v5, v6, v7, .ref h1, v8, v9, v10, v11])), (h1, .inr (0, [v12, v13, v14, v15, .int 0]))]) [0, 1] rfl
    have hD9 := hD.sub (ws' := [(h0, .inr (10, [v0, v1, v2, v3, v4, v5, v6, v7, .ref h1, v8, v9, v10, v11])), (h1, .inr (0, [v12, v13, v14, v15, .int 0]))]) [0, 1] (by decide) rfl
    exact W.zret (v := 0) hx hb hr rfl (fun t ht hW => ⟨⟨0, (), rfl, rfl, by rw [ht]; exact hP9, hD9⟩, hS.F ht⟩) hS.2.2 dX11_undo_14
def o_X12_undo : List Cond := [.fieldLink RX12 95 "EarTableModel" "changes" "I"]
def u_X12_undo : List Cond := .code yX12_undo cX12_undo 2 (some .boolean) :: (o_X12_undo ++ (wsX120 ++ ([] : List Cond)))
theorem inw_X12_undo_X12 : ∀ w ∈ wsX120, w ∈ u_X12_undo := fun w h => List.mem_cons_of_mem _ (List.mem_append_right _ (List.mem_append_left _ h))
set_option maxRecDepth 20000 in
theorem good_X12_undo : u_X12_undo.all goodWord = true := by decide +kernel
set_option maxRecDepth 20000 in
theorem in_X12_undo : ∀ w ∈ u_X12_undo, w ∈ lw_tbl := ma_cons inc_X12_undo (ma_app (ma_pos o_X12_undo [1022] (by decide +kernel)) (ma_app inb_X12 ma_nil))
set_option maxHeartbeats 4000000 in
set_option maxRecDepth 100000 in
theorem c_X12_undo (l : Launch) (D : va_G) (cI cJ cZ cB : ClassId) (sz : Nat) (h0 : Nat) (v0 : Value) (v1 : Value) (v2 : Value) (v3 : Value) (v4 : Value) (v5 : Value) (v6 : Value) (v7 : Value) (v8 : Value) (v9 : Value) (v10 : Value) (v11 : Value) (v12 : Value) (v13 : Value) (v14 : Value) (v15 : Value) (v16 : Value) (v17 : Value) (v18 : Value) (v19 : Value) (v20 : Value) (v21 : Value) (v22 : Value) (v23 : Value) (v24 : Value) (v25 : Value) (v26 : Value) (v27 : Value) (v28 : Value) (v29 : Value) (v30 : Value) (v31 : Value) (v32 : Value) (v33 : Value) (v34 : Value) (v35 : Value) (v36 : Value) (v37 : Value) (v38 : Value) (v39 : Value) (v40 : Value) (v41 : Value) (v42 : Value) (v43 : Value) (v44 : Value) (v45 : Value) (v46 : Value) (v47 : Value) (v48 : Value) : Met l yX12_undo u_X12_undo ({ frames := 0, cells := 0, slots := 0, locals := 0 }) (va_Pc [.ref h0] (kPre D cI cJ cZ cB [(h0, .inr (11, [v0, v1, v2, v3, v4, v5, v6, v7, v8, v9, v10, v11, v12, v13, v14, v15, v16, v17, v18, v19, v20, v21, v22, v23, v24, v25, v26, v27, v28, v29, v30, v31, v32, v33, v34, v35, v36, v37, v38, v39, v40, v41, v42, v43, v44, v45, .int 0, v46, v47, v48]))] sz)) (va_Qi (fun (r : Int32) (_ : Unit) => r = 0) (kB D (fun (u : Unit) => [(h0, .inr (11, [v0, v1, v2, v3, v4, v5, v6, v7, v8, v9, v10, v11, v12, v13, v14, v15, v16, v17, v18, v19, v20, v21, v22, v23, v24, v25, v26, v27, v28, v29, v30, v31, v32, v33, v34, v35, v36, v37, v38, v39, v40, v41, v42, v43, v44, v45, .int 0, v46, v47, v48]))]) (va_A [(h0, .inr (11, [v0, v1, v2, v3, v4, v5, v6, v7, v8, v9, v10, v11, v12, v13, v14, v15, v16, v17, v18, v19, v20, v21, v22, v23, v24, v25, v26, v27, v28, v29, v30, v31, v32, v33, v34, v35, v36, v37, v38, v39, v40, v41, v42, v43, v44, v45, .int 0, v46, v47, v48]))] sz)) (va_A [(h0, .inr (11, [v0, v1, v2, v3, v4, v5, v6, v7, v8, v9, v10, v11, v12, v13, v14, v15, v16, v17, v18, v19, v20, v21, v22, v23, v24, v25, v26, v27, v28, v29, v30, v31, v32, v33, v34, v35, v36, v37, v38, v39, v40, v41, v42, v43, v44, v45, .int 0, v46, v47, v48]))] sz)) 0 0 (va_A [(h0, .inr (11, [v0, v1, v2, v3, v4, v5, v6, v7, v8, v9, v10, v11, v12, v13, v14, v15, v16, v17, v18, v19, v20, v21, v22, v23, v24, v25, v26, v27, v28, v29, v30, v31, v32, v33, v34, v35, v36, v37, v38, v39, v40, v41, v42, v43, v44, v45, .int 0, v46, v47, v48]))] sz) := by
  refine Met.ofW (cc := cX12_undo) (maxL := 2) (ret := (some .boolean)) (by decide) rfl ?_
  intro p e s m args below meth c s₁ B hml hv
  obtain ⟨rfl, hsz, hP, hK, hN, hD0⟩ := hv
  have hx := B.exec
  have hb := B.bytes
  have hr := B.returns
  have hts := atoms_spec (ws := u_X12_undo) B.pre
  have hown : s.vm.findClass RX12 = some m.cls := findClass_of_methodNamed B.named
  have hlocks := B.notSynchronized
  subst hsz
  have hD := hD0.self (sz := s.heap.size)
  generalize hAe : va_A [(h0, .inr (11, [v0, v1, v2, v3, v4, v5, v6, v7, v8, v9, v10, v11, v12, v13, v14, v15, v16, v17, v18, v19, v20, v21, v22, v23, v24, v25, v26, v27, v28, v29, v30, v31, v32, v33, v34, v35, v36, v37, v38, v39, v40, v41, v42, v43, v44, v45, .int 0, v46, v47, v48]))] s.heap.size = A at hD ⊢
  have hA : ∀ q : Nat, s.heap.size ≤ q → A q := fun q h => by rw [← hAe]; exact Or.inr h
  have hS : va_S A s.heap s.heap [] := va_S.rf
  have hP : va_P D vwCl [(h0, .inr (11, [v0, v1, v2, v3, v4, v5, v6, v7, v8, v9, v10, v11, v12, v13, v14, v15, v16, v17, v18, v19, v20, v21, v22, v23, v24, v25, v26, v27, v28, v29, v30, v31, v32, v33, v34, v35, v36, v37, v38, v39, v40, v41, v42, v43, v44, v45, .int 0, v46, v47, v48]))] s.heap := hP
  have hl := lv_entry ([.ref h0]) (n := 2) (Nat.le_of_ble_eq_true rfl)
  rw [lg_entry_eq]
  generalize (lg_sl ([.ref h0]) ++ List.replicate (2 - (lg_sl ([.ref h0])).length) Slot.unset).toArray = ls at hl ⊢
  have hl : lv_has ls 2 [(0, .ref h0)] := hl
  obtain ⟨H, hHe⟩ : ∃ H, s.heap = H := ⟨_, rfl⟩
  have hP : va_P D vwCl [(h0, .inr (11, [v0, v1, v2, v3, v4, v5, v6, v7, v8, v9, v10, v11, v12, v13, v14, v15, v16, v17, v18, v19, v20, v21, v22, v23, v24, v25, v26, v27, v28, v29, v30, v31, v32, v33, v34, v35, v36, v37, v38, v39, v40, v41, v42, v43, v44, v45, .int 0, v46, v47, v48]))] H := by rw [← hHe]; exact hP
  have hS : va_S A s.heap H [] := by rw [← hHe]; exact hS
  refine kn_heap hHe ?_
  refine lv_aload_n hx hb dX12_undo_0 rfl (lv_at hl 0 rfl) ?_
  refine va_get (D := D) (ci := 11) (v := .int 0) (C := RX12) (T := TX12) (N := 50) hx hb hts inw_X12_undo_X12 hown hK hP 0 rfl rfl 46 (by decide) (hts (.fieldLink RX12 95 "EarTableModel" "changes" "I") (by decide +kernel)) (fun _ h9 => h9) rfl dX12_undo_1 ?_
  refine lv_if_ne (tgt := 9) hx hb dX12_undo_4 (by decide) (fun c_721 => ?_) (fun c_721 => ?_)
  · skip
    exact absurd rfl c_721
  · skip
    refine lv_iconst (v := 0) hx hb dX12_undo_7 (by decide) ?_
    have hP9 := hP.sub (ws' := [(h0, .inr (11, [v0, v1, v2, v3, v4, v5, v6, v7, v8, v9, v10, v11, v12, v13, v14, v15, v16, v17, v18, v19, v20, v21, v22, v23, v24, v25, v26, v27, v28, v29, v30, v31, v32, v33, v34, v35, v36, v37, v38, v39, v40, v41, v42, v43, v44, v45, .int 0, v46, v47, v48]))]) [0] rfl
    have hD9 := hD.sub (ws' := [(h0, .inr (11, [v0, v1, v2, v3, v4, v5, v6, v7, v8, v9, v10, v11, v12, v13, v14, v15, v16, v17, v18, v19, v20, v21, v22, v23, v24, v25, v26, v27, v28, v29, v30, v31, v32, v33, v34, v35, v36, v37, v38, v39, v40, v41, v42, v43, v44, v45, .int 0, v46, v47, v48]))]) [0] (by decide) rfl
    exact W.zret (v := 0) hx hb hr rfl (fun t ht hW => ⟨⟨0, (), rfl, rfl, by rw [ht]; exact hP9, hD9⟩, hS.F ht⟩) hS.2.2 dX12_undo_8
def o_X11_quarrels : List Cond := [.fieldLink RX11 28 "EarTable" "grid" "LEarTable$Grid;"]
def u_X11_quarrels : List Cond := .code yX11_quarrels cX11_quarrels 4 (some .int) :: (o_X11_quarrels ++ (wsX110 ++ (wsX10 ++ ([] : List Cond))))
theorem inw_X11_quarrels_X11 : ∀ w ∈ wsX110, w ∈ u_X11_quarrels := fun w h => List.mem_cons_of_mem _ (List.mem_append_right _ (List.mem_append_left _ h))
theorem inw_X11_quarrels_X1 : ∀ w ∈ wsX10, w ∈ u_X11_quarrels := fun w h => List.mem_cons_of_mem _ (List.mem_append_right _ (List.mem_append_right _ (List.mem_append_left _ h)))
set_option maxRecDepth 20000 in
theorem good_X11_quarrels : u_X11_quarrels.all goodWord = true := by decide +kernel
set_option maxRecDepth 20000 in
theorem in_X11_quarrels : ∀ w ∈ u_X11_quarrels, w ∈ lw_tbl := ma_cons inc_X11_quarrels (ma_app (ma_pos o_X11_quarrels [386] (by decide +kernel)) (ma_app inb_X11 (ma_app inb_X1 ma_nil)))
set_option maxHeartbeats 4000000 in
set_option maxRecDepth 100000 in
theorem c_X11_quarrels (l : Launch) (D : va_G) (cI cJ cZ cB : ClassId) (sz : Nat) (h0 : Nat) (h1 : Nat) (v0 : Value) (v1 : Value) (v2 : Value) (v3 : Value) (v4 : Value) (v5 : Value) (v6 : Value) (v7 : Value) (v8 : Value) (v9 : Value) (v10 : Value) (v11 : Value) (v12 : Value) (v13 : Value) (v14 : Value) (v15 : Value) (v16 : Value) (v17 : Value) (v18 : Value) : Met l yX11_quarrels u_X11_quarrels ({ frames := 0, cells := 0, slots := 0, locals := 0 }) (va_Pc [.ref h0] (kPre D cI cJ cZ cB [(h0, .inr (10, [v0, v1, .ref h1, v2, v3, v4, v5, v6, v7, v8, v9, v10, v11])), (h1, .inr (1, [v12, v13, v14, v15, v16, v17, .int 0, v18]))] sz)) (va_Qi (fun (r : Int32) (_ : Unit) => r = 0) (kB D (fun (u : Unit) => [(h0, .inr (10, [v0, v1, .ref h1, v2, v3, v4, v5, v6, v7, v8, v9, v10, v11])), (h1, .inr (1, [v12, v13, v14, v15, v16, v17, .int 0, v18]))]) (va_A [(h0, .inr (10, [v0, v1, .ref h1, v2, v3, v4, v5, v6, v7, v8, v9, v10, v11])), (h1, .inr (1, [v12, v13, v14, v15, v16, v17, .int 0, v18]))] sz)) (va_A [(h0, .inr (10, [v0, v1, .ref h1, v2, v3, v4, v5, v6, v7, v8, v9, v10, v11])), (h1, .inr (1, [v12, v13, v14, v15, v16, v17, .int 0, v18]))] sz)) 0 0 (va_A [(h0, .inr (10, [v0, v1, .ref h1, v2, v3, v4, v5, v6, v7, v8, v9, v10, v11])), (h1, .inr (1, [v12, v13, v14, v15, v16, v17, .int 0, v18]))] sz) := by
  refine Met.ofW (cc := cX11_quarrels) (maxL := 4) (ret := (some .int)) (by decide) rfl ?_
  intro p e s m args below meth c s₁ B hml hv
  obtain ⟨rfl, hsz, hP, hK, hN, hD0⟩ := hv
  have hx := B.exec
  have hb := B.bytes
  have hr := B.returns
  have hts := atoms_spec (ws := u_X11_quarrels) B.pre
  have hown : s.vm.findClass RX11 = some m.cls := findClass_of_methodNamed B.named
  have hlocks := B.notSynchronized
  subst hsz
  have hD := hD0.self (sz := s.heap.size)
  generalize hAe : va_A [(h0, .inr (10, [v0, v1, .ref h1, v2, v3, v4, v5, v6, v7, v8, v9, v10, v11])), (h1, .inr (1, [v12, v13, v14, v15, v16, v17, .int 0, v18]))] s.heap.size = A at hD ⊢
  have hA : ∀ q : Nat, s.heap.size ≤ q → A q := fun q h => by rw [← hAe]; exact Or.inr h
  have hS : va_S A s.heap s.heap [] := va_S.rf
  have hP : va_P D vwCl [(h0, .inr (10, [v0, v1, .ref h1, v2, v3, v4, v5, v6, v7, v8, v9, v10, v11])), (h1, .inr (1, [v12, v13, v14, v15, v16, v17, .int 0, v18]))] s.heap := hP
  have hl := lv_entry ([.ref h0]) (n := 4) (Nat.le_of_ble_eq_true rfl)
  rw [lg_entry_eq]
  generalize (lg_sl ([.ref h0]) ++ List.replicate (4 - (lg_sl ([.ref h0])).length) Slot.unset).toArray = ls at hl ⊢
  have hl : lv_has ls 4 [(0, .ref h0)] := hl
  obtain ⟨H, hHe⟩ : ∃ H, s.heap = H := ⟨_, rfl⟩
  have hP : va_P D vwCl [(h0, .inr (10, [v0, v1, .ref h1, v2, v3, v4, v5, v6, v7, v8, v9, v10, v11])), (h1, .inr (1, [v12, v13, v14, v15, v16, v17, .int 0, v18]))] H := by rw [← hHe]; exact hP
  have hS : va_S A s.heap H [] := by rw [← hHe]; exact hS
  refine kn_heap hHe ?_
  refine lv_iconst (v := 0) hx hb dX11_quarrels_0 (by decide) ?_
  refine lv_istore_n (lv' := [(1, .int 0), (0, .ref h0)]) hx hb dX11_quarrels_1 rfl hl (by decide) rfl (fun ls hl => ?_)
  refine lv_iconst (v := 0) hx hb dX11_quarrels_2 (by decide) ?_
  refine lv_istore_n (lv' := [(2, .int 0), (1, .int 0), (0, .ref h0)]) hx hb dX11_quarrels_3 rfl hl (by decide) rfl (fun ls hl => ?_)
  refine lv_iload_n hx hb dX11_quarrels_4 rfl (lv_at hl 0 rfl) ?_
  refine lv_aload_n hx hb dX11_quarrels_5 rfl (lv_at hl 2 rfl) ?_
  refine va_get (D := D) (ci := 10) (v := .ref h1) (C := RX11) (T := TX11) (N := 13) hx hb hts inw_X11_quarrels_X11 hown hK hP 0 rfl rfl 2 (by decide) (hts (.fieldLink RX11 28 "EarTable" "grid" "LEarTable$Grid;") (by decide +kernel)) (fun _ h9 => h9) rfl dX11_quarrels_6 ?_
  refine va_getN (D := D) (ci := 1) (v := .int 0) (C := RX1) (T := TX1) (N := 8) hx hb hts inw_X11_quarrels_X1 hown hK hP 1 rfl rfl 6 (by decide) (va_Nw.use rfl (hN.1 (RX11, 106, "EarTable$Grid", "lines", "I") (by decide +kernel))) (fun _ h9 => h9) rfl dX11_quarrels_9 ?_
  refine lv_icmp_ge (tgt := 55) hx hb dX11_quarrels_12 (by decide) (fun c_725 => ?_) (fun c_725 => ?_)
  · skip
    refine lv_iload_n hx hb dX11_quarrels_55 rfl (lv_at hl 1 rfl) ?_
    have hP9 := hP.sub (ws' := [(h0, .inr (10, [v0, v1, .ref h1, v2, v3, v4, v5, v6, v7, v8, v9, v10, v11])), (h1, .inr (1, [v12, v13, v14, v15, v16, v17, .int 0, v18]))]) [0, 1] rfl
    have hD9 := hD.sub (ws' := [(h0, .inr (10, [v0, v1, .ref h1, v2, v3, v4, v5, v6, v7, v8, v9, v10, v11])), (h1, .inr (1, [v12, v13, v14, v15, v16, v17, .int 0, v18]))]) [0, 1] (by decide) rfl
    exact W.iret (v := 0) hx hb hr (fun t ht hW => ⟨⟨0, (), rfl, rfl, by rw [ht]; exact hP9, hD9⟩, hS.F ht⟩) hS.2.2 dX11_quarrels_56
  · skip
    exact absurd rfl c_725
def o_X12_seekQuarrels : List Cond := [.fieldLink RX12 297 "EarTableModel" "quarrelMany" "I", .fieldLink RX12 300 "EarTableModel" "quarrelAt" "I", .fieldLink RX12 303 "EarTableModel" "quarrelRight" "J", .fieldLink RX12 74 "EarTableModel" "lines" "[I", .fieldLink RX12 64 "EarTableModel" "bank" "I"]
def u_X12_seekQuarrels : List Cond := .code yX12_seekQuarrels cX12_seekQuarrels 5 none :: (o_X12_seekQuarrels ++ (wsX120 ++ ([] : List Cond)))
theorem inw_X12_seekQuarrels_X12 : ∀ w ∈ wsX120, w ∈ u_X12_seekQuarrels := fun w h => List.mem_cons_of_mem _ (List.mem_append_right _ (List.mem_append_left _ h))
set_option maxRecDepth 20000 in
theorem good_X12_seekQuarrels : u_X12_seekQuarrels.all goodWord = true := by decide +kernel
set_option maxRecDepth 20000 in
theorem in_X12_seekQuarrels : ∀ w ∈ u_X12_seekQuarrels, w ∈ lw_tbl := ma_cons inc_X12_seekQuarrels (ma_app (ma_pos o_X12_seekQuarrels [1023, 1024, 1025, 992, 996] (by decide +kernel)) (ma_app inb_X12 ma_nil))
set_option maxHeartbeats 4000000 in
set_option maxRecDepth 100000 in
theorem c_X12_seekQuarrels (l : Launch) (D : va_G) (cI cJ cZ cB : ClassId) (sz : Nat) (h0 : Nat) (h1 : Nat) (v0 : Value) (v1 : Value) (v2 : Value) (v3 : Value) (v4 : Value) (v5 : Value) (v6 : Value) (v7 : Value) (v8 : Value) (v9 : Value) (v10 : Value) (v11 : Value) (v12 : Value) (v13 : Value) (v14 : Value) (v15 : Value) (v16 : Value) (v17 : Value) (v18 : Value) (v19 : Value) (v20 : Value) (v21 : Value) (v22 : Value) (v23 : Value) (v24 : Value) (v25 : Value) (v26 : Value) (v27 : Value) (v28 : Value) (v29 : Value) (v30 : Value) (v31 : Value) (v32 : Value) (v33 : Value) (v34 : Value) (v35 : Value) (v36 : Value) (v37 : Value) (v38 : Value) (v39 : Value) (v40 : Value) (v41 : Value) (v42 : Value) (v43 : Value) (v44 : Value) (v45 : Value) (v46 : Value) (v47 : Value) : Met l yX12_seekQuarrels u_X12_seekQuarrels ({ frames := 0, cells := 0, slots := 0, locals := 0 }) (va_Pc [.ref h0, .int (-1)] (kPre D cI cJ cZ cB [(h0, .inr (11, [v0, v1, v2, v3, v4, v5, v6, v7, v8, v9, v10, v11, v12, v13, v14, v15, .ref h1, v16, v17, v18, .int 0, v19, v20, v21, v22, v23, v24, v25, v26, v27, v28, v29, v30, v31, v32, v33, v34, v35, v36, v37, v38, v39, v40, v41, v42, v43, v44, v45, v46, v47])), (h1, .inl (cI, 2, .inl (fun _ => 0)))] sz)) (va_Qv (fun (_ : Unit) => True) (kB D (fun (u : Unit) => [(h0, .inr (11, [v0, v1, v2, v3, v4, v5, v6, v7, v8, v9, v10, v11, v12, v13, v14, v15, .ref h1, v16, v17, v18, .int 0, v19, v20, v21, v22, v23, v24, v25, v26, v27, v28, v29, v30, v31, v32, v33, v34, v35, v36, v37, v38, v39, v40, v41, v42, v43, v44, .int 0, .int (-1), .long 0])), (h1, .inl (cI, 2, .inl (fun _ => 0)))]) (va_A [(h0, .inr (11, [v0, v1, v2, v3, v4, v5, v6, v7, v8, v9, v10, v11, v12, v13, v14, v15, .ref h1, v16, v17, v18, .int 0, v19, v20, v21, v22, v23, v24, v25, v26, v27, v28, v29, v30, v31, v32, v33, v34, v35, v36, v37, v38, v39, v40, v41, v42, v43, v44, v45, v46, v47])), (h1, .inl (cI, 2, .inl (fun _ => 0)))] sz)) (va_A [(h0, .inr (11, [v0, v1, v2, v3, v4, v5, v6, v7, v8, v9, v10, v11, v12, v13, v14, v15, .ref h1, v16, v17, v18, .int 0, v19, v20, v21, v22, v23, v24, v25, v26, v27, v28, v29, v30, v31, v32, v33, v34, v35, v36, v37, v38, v39, v40, v41, v42, v43, v44, v45, v46, v47])), (h1, .inl (cI, 2, .inl (fun _ => 0)))] sz)) 0 0 (va_A [(h0, .inr (11, [v0, v1, v2, v3, v4, v5, v6, v7, v8, v9, v10, v11, v12, v13, v14, v15, .ref h1, v16, v17, v18, .int 0, v19, v20, v21, v22, v23, v24, v25, v26, v27, v28, v29, v30, v31, v32, v33, v34, v35, v36, v37, v38, v39, v40, v41, v42, v43, v44, v45, v46, v47])), (h1, .inl (cI, 2, .inl (fun _ => 0)))] sz) := by
  refine Met.ofW (cc := cX12_seekQuarrels) (maxL := 5) (ret := none) (by decide) rfl ?_
  intro p e s m args below meth c s₁ B hml hv
  obtain ⟨rfl, hsz, hP, hK, hN, hD0⟩ := hv
  have hx := B.exec
  have hb := B.bytes
  have hr := B.returns
  have hts := atoms_spec (ws := u_X12_seekQuarrels) B.pre
  have hown : s.vm.findClass RX12 = some m.cls := findClass_of_methodNamed B.named
  have hlocks := B.notSynchronized
  subst hsz
  have hD := hD0.self (sz := s.heap.size)
  generalize hAe : va_A [(h0, .inr (11, [v0, v1, v2, v3, v4, v5, v6, v7, v8, v9, v10, v11, v12, v13, v14, v15, .ref h1, v16, v17, v18, .int 0, v19, v20, v21, v22, v23, v24, v25, v26, v27, v28, v29, v30, v31, v32, v33, v34, v35, v36, v37, v38, v39, v40, v41, v42, v43, v44, v45, v46, v47])), (h1, .inl (cI, 2, .inl (fun _ => 0)))] s.heap.size = A at hD ⊢
  have hA : ∀ q : Nat, s.heap.size ≤ q → A q := fun q h => by rw [← hAe]; exact Or.inr h
  have hS : va_S A s.heap s.heap [] := va_S.rf
  have hP : va_P D vwCl [(h0, .inr (11, [v0, v1, v2, v3, v4, v5, v6, v7, v8, v9, v10, v11, v12, v13, v14, v15, .ref h1, v16, v17, v18, .int 0, v19, v20, v21, v22, v23, v24, v25, v26, v27, v28, v29, v30, v31, v32, v33, v34, v35, v36, v37, v38, v39, v40, v41, v42, v43, v44, v45, v46, v47])), (h1, .inl (cI, 2, .inl (fun _ => 0)))] s.heap := hP
  have hl := lv_entry ([.ref h0, .int (-1)]) (n := 5) (Nat.le_of_ble_eq_true rfl)
  rw [lg_entry_eq]
  generalize (lg_sl ([.ref h0, .int (-1)]) ++ List.replicate (5 - (lg_sl ([.ref h0, .int (-1)])).length) Slot.unset).toArray = ls at hl ⊢
  have hl : lv_has ls 5 [(0, .ref h0), (1, .int (-1))] := hl
  obtain ⟨H, hHe⟩ : ∃ H, s.heap = H := ⟨_, rfl⟩
  have hP : va_P D vwCl [(h0, .inr (11, [v0, v1, v2, v3, v4, v5, v6, v7, v8, v9, v10, v11, v12, v13, v14, v15, .ref h1, v16, v17, v18, .int 0, v19, v20, v21, v22, v23, v24, v25, v26, v27, v28, v29, v30, v31, v32, v33, v34, v35, v36, v37, v38, v39, v40, v41, v42, v43, v44, v45, v46, v47])), (h1, .inl (cI, 2, .inl (fun _ => 0)))] H := by rw [← hHe]; exact hP
  have hS : va_S A s.heap H [] := by rw [← hHe]; exact hS
  refine kn_heap hHe ?_
  refine lv_aload_n hx hb dX12_seekQuarrels_0 rfl (lv_at hl 0 rfl) ?_
  refine lv_iconst (v := 0) hx hb dX12_seekQuarrels_1 (by decide) ?_
  refine va_put (D := D) (ci := 11) (v := .int 0) (ty := .int) (C := RX12) (T := TX12) (N := 50) hx hb hts inw_X12_seekQuarrels_X12 tyX12 tyX12_ok nmX12 hown hK hP hD hS 0 rfl rfl 47 (by decide) (hts (.fieldLink RX12 297 "EarTableModel" "quarrelMany" "I") (by decide +kernel)) (fun _ h9 => h9) rfl (by decide +kernel) rfl rfl (Nat.le_of_ble_eq_true rfl) dX12_seekQuarrels_2 (fun H locs hP hD hS => ?_)
  have hP : va_P D vwCl [(h0, .inr (11, [v0, v1, v2, v3, v4, v5, v6, v7, v8, v9, v10, v11, v12, v13, v14, v15, .ref h1, v16, v17, v18, .int 0, v19, v20, v21, v22, v23, v24, v25, v26, v27, v28, v29, v30, v31, v32, v33, v34, v35, v36, v37, v38, v39, v40, v41, v42, v43, v44, .int 0, v46, v47])), (h1, .inl (cI, 2, .inl (fun _ => 0)))] H := hP
  have hD : va_D A [(h0, .inr (11, [v0, v1, v2, v3, v4, v5, v6, v7, v8, v9, v10, v11, v12, v13, v14, v15, .ref h1, v16, v17, v18, .int 0, v19, v20, v21, v22, v23, v24, v25, v26, v27, v28, v29, v30, v31, v32, v33, v34, v35, v36, v37, v38, v39, v40, v41, v42, v43, v44, .int 0, v46, v47])), (h1, .inl (cI, 2, .inl (fun _ => 0)))] := hD
  refine lv_aload_n hx hb dX12_seekQuarrels_5 rfl (lv_at hl 0 rfl) ?_
  refine lv_iconst (v := (-1)) hx hb dX12_seekQuarrels_6 (by decide) ?_
  refine va_put (D := D) (ci := 11) (v := .int (-1)) (ty := .int) (C := RX12) (T := TX12) (N := 50) hx hb hts inw_X12_seekQuarrels_X12 tyX12 tyX12_ok nmX12 hown hK hP hD hS 0 rfl rfl 48 (by decide) (hts (.fieldLink RX12 300 "EarTableModel" "quarrelAt" "I") (by decide +kernel)) (fun _ h9 => h9) rfl (by decide +kernel) rfl rfl (Nat.le_of_ble_eq_true rfl) dX12_seekQuarrels_7 (fun H locs hP hD hS => ?_)
  have hP : va_P D vwCl [(h0, .inr (11, [v0, v1, v2, v3, v4, v5, v6, v7, v8, v9, v10, v11, v12, v13, v14, v15, .ref h1, v16, v17, v18, .int 0, v19, v20, v21, v22, v23, v24, v25, v26, v27, v28, v29, v30, v31, v32, v33, v34, v35, v36, v37, v38, v39, v40, v41, v42, v43, v44, .int 0, .int (-1), v47])), (h1, .inl (cI, 2, .inl (fun _ => 0)))] H := hP
  have hD : va_D A [(h0, .inr (11, [v0, v1, v2, v3, v4, v5, v6, v7, v8, v9, v10, v11, v12, v13, v14, v15, .ref h1, v16, v17, v18, .int 0, v19, v20, v21, v22, v23, v24, v25, v26, v27, v28, v29, v30, v31, v32, v33, v34, v35, v36, v37, v38, v39, v40, v41, v42, v43, v44, .int 0, .int (-1), v47])), (h1, .inl (cI, 2, .inl (fun _ => 0)))] := hD
  refine lv_aload_n hx hb dX12_seekQuarrels_10 rfl (lv_at hl 0 rfl) ?_
  refine lv_lconst (v := 0) hx hb dX12_seekQuarrels_11 (by decide) ?_
  refine va_put (D := D) (ci := 11) (v := .long 0) (ty := .long) (C := RX12) (T := TX12) (N := 50) hx hb hts inw_X12_seekQuarrels_X12 tyX12 tyX12_ok nmX12 hown hK hP hD hS 0 rfl rfl 49 (by decide) (hts (.fieldLink RX12 303 "EarTableModel" "quarrelRight" "J") (by decide +kernel)) (fun _ h9 => h9) rfl (by decide +kernel) rfl rfl (Nat.le_of_ble_eq_true rfl) dX12_seekQuarrels_12 (fun H locs hP hD hS => ?_)
  have hP : va_P D vwCl [(h0, .inr (11, [v0, v1, v2, v3, v4, v5, v6, v7, v8, v9, v10, v11, v12, v13, v14, v15, .ref h1, v16, v17, v18, .int 0, v19, v20, v21, v22, v23, v24, v25, v26, v27, v28, v29, v30, v31, v32, v33, v34, v35, v36, v37, v38, v39, v40, v41, v42, v43, v44, .int 0, .int (-1), .long 0])), (h1, .inl (cI, 2, .inl (fun _ => 0)))] H := hP
  have hD : va_D A [(h0, .inr (11, [v0, v1, v2, v3, v4, v5, v6, v7, v8, v9, v10, v11, v12, v13, v14, v15, .ref h1, v16, v17, v18, .int 0, v19, v20, v21, v22, v23, v24, v25, v26, v27, v28, v29, v30, v31, v32, v33, v34, v35, v36, v37, v38, v39, v40, v41, v42, v43, v44, .int 0, .int (-1), .long 0])), (h1, .inl (cI, 2, .inl (fun _ => 0)))] := hD
  refine lv_iconst (v := 0) hx hb dX12_seekQuarrels_15 (by decide) ?_
  refine lv_istore_n (lv' := [(2, .int 0), (0, .ref h0), (1, .int (-1))]) hx hb dX12_seekQuarrels_16 rfl hl (by decide) rfl (fun ls hl => ?_)
  refine lv_iload_n hx hb dX12_seekQuarrels_17 rfl (lv_at hl 0 rfl) ?_
  refine lv_aload_n hx hb dX12_seekQuarrels_18 rfl (lv_at hl 1 rfl) ?_
  refine va_get (D := D) (ci := 11) (v := .ref h1) (C := RX12) (T := TX12) (N := 50) hx hb hts inw_X12_seekQuarrels_X12 hown hK hP 0 rfl rfl 16 (by decide) (hts (.fieldLink RX12 74 "EarTableModel" "lines" "[I") (by decide +kernel)) (fun _ h9 => h9) rfl dX12_seekQuarrels_19 ?_
  refine lv_aload_n hx hb dX12_seekQuarrels_22 rfl (lv_at hl 1 rfl) ?_
  refine va_get (D := D) (ci := 11) (v := .int 0) (C := RX12) (T := TX12) (N := 50) hx hb hts inw_X12_seekQuarrels_X12 hown hK hP 0 rfl rfl 20 (by decide) (hts (.fieldLink RX12 64 "EarTableModel" "bank" "I") (by decide +kernel)) (fun _ h9 => h9) rfl dX12_seekQuarrels_23 ?_
  refine va_iald hx hb hK hP 1 0 rfl rfl (kn_in (by decide)) dX12_seekQuarrels_26 ?_
  refine kn_top (y := 0) (by decide +kernel) ?_
  refine lv_icmp_ge (tgt := 166) hx hb dX12_seekQuarrels_27 (by decide) (fun c_728 => ?_) (fun c_728 => ?_)
  · skip
    have hP9 := hP.sub (ws' := [(h0, .inr (11, [v0, v1, v2, v3, v4, v5, v6, v7, v8, v9, v10, v11, v12, v13, v14, v15, .ref h1, v16, v17, v18, .int 0, v19, v20, v21, v22, v23, v24, v25, v26, v27, v28, v29, v30, v31, v32, v33, v34, v35, v36, v37, v38, v39, v40, v41, v42, v43, v44, .int 0, .int (-1), .long 0])), (h1, .inl (cI, 2, .inl (fun _ => 0)))]) [0, 1] rfl
    have hD9 := hD.sub (ws' := [(h0, .inr (11, [v0, v1, v2, v3, v4, v5, v6, v7, v8, v9, v10, v11, v12, v13, v14, v15, .ref h1, v16, v17, v18, .int 0, v19, v20, v21, v22, v23, v24, v25, v26, v27, v28, v29, v30, v31, v32, v33, v34, v35, v36, v37, v38, v39, v40, v41, v42, v43, v44, .int 0, .int (-1), .long 0])), (h1, .inl (cI, 2, .inl (fun _ => 0)))]) [0, 1] (by decide) rfl
    exact W.vret hx hb hr (fun t ht hW => ⟨⟨(), rfl, trivial, by rw [ht]; exact hP9, hD9⟩, hS.F ht⟩) hS.2.2 dX12_seekQuarrels_166
  · skip
    exact absurd rfl c_728
def o_X12_quarrels : List Cond := [.methodLink RX12 310 yX12_seekQuarrels, .instanceMethod yX12_seekQuarrels, .selects RX12 yX12_seekQuarrels yX12_seekQuarrels, .initialized RX12, .fieldLink RX12 297 "EarTableModel" "quarrelMany" "I"]
def u_X12_quarrels : List Cond := .code yX12_quarrels cX12_quarrels 1 (some .int) :: (o_X12_quarrels ++ (u_X12_seekQuarrels ++ (wsX120 ++ ([] : List Cond))))
theorem gs_X12_quarrels__X12_seekQuarrels : GoodIn u_X12_quarrels u_X12_seekQuarrels := goodIn_sub (fun w h => List.mem_cons_of_mem _ (List.mem_append_right _ (List.mem_append_left _ h))) good_X12_seekQuarrels
theorem inw_X12_quarrels_X12 : ∀ w ∈ wsX120, w ∈ u_X12_quarrels := fun w h => List.mem_cons_of_mem _ (List.mem_append_right _ (List.mem_append_right _ (List.mem_append_left _ h)))
set_option maxRecDepth 20000 in
theorem good_X12_quarrels : u_X12_quarrels.all goodWord = true := by decide +kernel
set_option maxRecDepth 20000 in
theorem in_X12_quarrels : ∀ w ∈ u_X12_quarrels, w ∈ lw_tbl := ma_cons inc_X12_quarrels (ma_app (ma_pos o_X12_quarrels [1236, 1238, 59, 76, 1023] (by decide +kernel)) (ma_app in_X12_seekQuarrels (ma_app inb_X12 ma_nil)))
set_option maxHeartbeats 4000000 in
set_option maxRecDepth 100000 in
theorem c_X12_quarrels (l : Launch) (D : va_G) (cI cJ cZ cB : ClassId) (sz : Nat) (h0 : Nat) (h1 : Nat) (v0 : Value) (v1 : Value) (v2 : Value) (v3 : Value) (v4 : Value) (v5 : Value) (v6 : Value) (v7 : Value) (v8 : Value) (v9 : Value) (v10 : Value) (v11 : Value) (v12 : Value) (v13 : Value) (v14 : Value) (v15 : Value) (v16 : Value) (v17 : Value) (v18 : Value) (v19 : Value) (v20 : Value) (v21 : Value) (v22 : Value) (v23 : Value) (v24 : Value) (v25 : Value) (v26 : Value) (v27 : Value) (v28 : Value) (v29 : Value) (v30 : Value) (v31 : Value) (v32 : Value) (v33 : Value) (v34 : Value) (v35 : Value) (v36 : Value) (v37 : Value) (v38 : Value) (v39 : Value) (v40 : Value) (v41 : Value) (v42 : Value) (v43 : Value) (v44 : Value) (v45 : Value) (v46 : Value) (v47 : Value) : Met l yX12_quarrels u_X12_quarrels ({ frames := 1, cells := 0, slots := 0, locals := 24 }) (va_Pc [.ref h0] (kPre D cI cJ cZ cB [(h0, .inr (11, [v0, v1, v2, v3, v4, v5, v6, v7, v8, v9, v10, v11, v12, v13, v14, v15, .ref h1, v16, v17, v18, .int 0, v19, v20, v21, v22, v23, v24, v25, v26, v27, v28, v29, v30, v31, v32, v33, v34, v35, v36, v37, v38, v39, v40, v41, v42, v43, v44, v45, v46, v47])), (h1, .inl (cI, 2, .inl (fun _ => 0)))] sz)) (va_Qi (fun (r : Int32) (_ : Unit) => r = 0) (kB D (fun (u : Unit) => [(h0, .inr (11, [v0, v1, v2, v3, v4, v5, v6, v7, v8, v9, v10, v11, v12, v13, v14, v15, .ref h1, v16, v17, v18, .int 0, v19, v20, v21, v22, v23, v24, v25, v26, v27, v28, v29, v30, v31, v32, v33, v34, v35, v36, v37, v38, v39, v40, v41, v42, v43, v44, .int 0, .int (-1), .long 0])), (h1, .inl (cI, 2, .inl (fun _ => 0)))]) (va_A [(h0, .inr (11, [v0, v1, v2, v3, v4, v5, v6, v7, v8, v9, v10, v11, v12, v13, v14, v15, .ref h1, v16, v17, v18, .int 0, v19, v20, v21, v22, v23, v24, v25, v26, v27, v28, v29, v30, v31, v32, v33, v34, v35, v36, v37, v38, v39, v40, v41, v42, v43, v44, v45, v46, v47])), (h1, .inl (cI, 2, .inl (fun _ => 0)))] sz)) (va_A [(h0, .inr (11, [v0, v1, v2, v3, v4, v5, v6, v7, v8, v9, v10, v11, v12, v13, v14, v15, .ref h1, v16, v17, v18, .int 0, v19, v20, v21, v22, v23, v24, v25, v26, v27, v28, v29, v30, v31, v32, v33, v34, v35, v36, v37, v38, v39, v40, v41, v42, v43, v44, v45, v46, v47])), (h1, .inl (cI, 2, .inl (fun _ => 0)))] sz)) 0 0 (va_A [(h0, .inr (11, [v0, v1, v2, v3, v4, v5, v6, v7, v8, v9, v10, v11, v12, v13, v14, v15, .ref h1, v16, v17, v18, .int 0, v19, v20, v21, v22, v23, v24, v25, v26, v27, v28, v29, v30, v31, v32, v33, v34, v35, v36, v37, v38, v39, v40, v41, v42, v43, v44, v45, v46, v47])), (h1, .inl (cI, 2, .inl (fun _ => 0)))] sz) := by
  refine Met.ofW (cc := cX12_quarrels) (maxL := 1) (ret := (some .int)) (by decide) rfl ?_
  intro p e s m args below meth c s₁ B hml hv
  obtain ⟨rfl, hsz, hP, hK, hN, hD0⟩ := hv
  have hx := B.exec
  have hb := B.bytes
  have hr := B.returns
  have hts := atoms_spec (ws := u_X12_quarrels) B.pre
  have hown : s.vm.findClass RX12 = some m.cls := findClass_of_methodNamed B.named
  have hlocks := B.notSynchronized
  subst hsz
  have hD := hD0.self (sz := s.heap.size)
  generalize hAe : va_A [(h0, .inr (11, [v0, v1, v2, v3, v4, v5, v6, v7, v8, v9, v10, v11, v12, v13, v14, v15, .ref h1, v16, v17, v18, .int 0, v19, v20, v21, v22, v23, v24, v25, v26, v27, v28, v29, v30, v31, v32, v33, v34, v35, v36, v37, v38, v39, v40, v41, v42, v43, v44, v45, v46, v47])), (h1, .inl (cI, 2, .inl (fun _ => 0)))] s.heap.size = A at hD ⊢
  have hA : ∀ q : Nat, s.heap.size ≤ q → A q := fun q h => by rw [← hAe]; exact Or.inr h
  have hS : va_S A s.heap s.heap [] := va_S.rf
  have hP : va_P D vwCl [(h0, .inr (11, [v0, v1, v2, v3, v4, v5, v6, v7, v8, v9, v10, v11, v12, v13, v14, v15, .ref h1, v16, v17, v18, .int 0, v19, v20, v21, v22, v23, v24, v25, v26, v27, v28, v29, v30, v31, v32, v33, v34, v35, v36, v37, v38, v39, v40, v41, v42, v43, v44, v45, v46, v47])), (h1, .inl (cI, 2, .inl (fun _ => 0)))] s.heap := hP
  have hl := lv_entry ([.ref h0]) (n := 1) (Nat.le_of_ble_eq_true rfl)
  rw [lg_entry_eq]
  generalize (lg_sl ([.ref h0]) ++ List.replicate (1 - (lg_sl ([.ref h0])).length) Slot.unset).toArray = ls at hl ⊢
  have hl : lv_has ls 1 [(0, .ref h0)] := hl
  obtain ⟨H, hHe⟩ : ∃ H, s.heap = H := ⟨_, rfl⟩
  have hP : va_P D vwCl [(h0, .inr (11, [v0, v1, v2, v3, v4, v5, v6, v7, v8, v9, v10, v11, v12, v13, v14, v15, .ref h1, v16, v17, v18, .int 0, v19, v20, v21, v22, v23, v24, v25, v26, v27, v28, v29, v30, v31, v32, v33, v34, v35, v36, v37, v38, v39, v40, v41, v42, v43, v44, v45, v46, v47])), (h1, .inl (cI, 2, .inl (fun _ => 0)))] H := by rw [← hHe]; exact hP
  have hS : va_S A s.heap H [] := by rw [← hHe]; exact hS
  refine kn_heap hHe ?_
  refine lv_aload_n hx hb dX12_quarrels_0 rfl (lv_at hl 0 rfl) ?_
  refine lv_iconst (v := (-1)) hx hb dX12_quarrels_1 (by decide) ?_
  have hPc := hP.sub (ws' := [(h0, .inr (11, [v0, v1, v2, v3, v4, v5, v6, v7, v8, v9, v10, v11, v12, v13, v14, v15, .ref h1, v16, v17, v18, .int 0, v19, v20, v21, v22, v23, v24, v25, v26, v27, v28, v29, v30, v31, v32, v33, v34, v35, v36, v37, v38, v39, v40, v41, v42, v43, v44, v45, v46, v47])), (h1, .inl (cI, 2, .inl (fun _ => 0)))]) [0, 1] rfl
  have hDc := hD.sub (ws' := [(h0, .inr (11, [v0, v1, v2, v3, v4, v5, v6, v7, v8, v9, v10, v11, v12, v13, v14, v15, .ref h1, v16, v17, v18, .int 0, v19, v20, v21, v22, v23, v24, v25, v26, v27, v28, v29, v30, v31, v32, v33, v34, v35, v36, v37, v38, v39, v40, v41, v42, v43, v44, v45, v46, v47])), (h1, .inl (cI, 2, .inl (fun _ => 0)))]) [0, 1] (by decide) rfl
  refine kn_callv (wr := []) (cells' := 0) (slots' := 0) (va_runV (As := [.int (-1)]) (rest := []) ⟨hx, hb, hml, hown, hts⟩ (c_X12_seekQuarrels l D cI cJ cZ cB H.size h0 h1 v0 v1 v2 v3 v4 v5 v6 v7 v8 v9 v10 v11 v12 v13 v14 v15 v16 v17 v18 v19 v20 v21 v22 v23 v24 v25 v26 v27 v28 v29 v30 v31 v32 v33 v34 v35 v36 v37 v38 v39 v40 v41 v42 v43 v44 v45 v46 v47) (cwV 1 hts (goodIn_app (goodIn_of _ (by decide +kernel)) gs_X12_quarrels__X12_seekQuarrels) rfl rfl rfl (by decide +kernel) ⟨(Nat.le_of_ble_eq_true rfl), (Nat.le_of_ble_eq_true rfl)⟩) (kp_V 0 11 rfl rfl hPc hK hN hDc) rfl rfl hl.1 rfl (lv_room (Nat.le_of_ble_eq_true rfl)) dX12_quarrels_2 ⟨(Nat.le_of_ble_eq_true rfl), (Nat.le_of_ble_eq_true rfl)⟩) hS hA hP hD [0, 1] [] rfl rfl (by decide) (by decide) (Nat.le_of_ble_eq_true rfl) (Nat.le_of_ble_eq_true rfl) (fun u H locs hw_728 hP hD hS => ?_)
  have hP : va_P D vwCl [(h0, .inr (11, [v0, v1, v2, v3, v4, v5, v6, v7, v8, v9, v10, v11, v12, v13, v14, v15, .ref h1, v16, v17, v18, .int 0, v19, v20, v21, v22, v23, v24, v25, v26, v27, v28, v29, v30, v31, v32, v33, v34, v35, v36, v37, v38, v39, v40, v41, v42, v43, v44, .int 0, .int (-1), .long 0])), (h1, .inl (cI, 2, .inl (fun _ => 0)))] H := hP
  have hD : va_D A [(h0, .inr (11, [v0, v1, v2, v3, v4, v5, v6, v7, v8, v9, v10, v11, v12, v13, v14, v15, .ref h1, v16, v17, v18, .int 0, v19, v20, v21, v22, v23, v24, v25, v26, v27, v28, v29, v30, v31, v32, v33, v34, v35, v36, v37, v38, v39, v40, v41, v42, v43, v44, .int 0, .int (-1), .long 0])), (h1, .inl (cI, 2, .inl (fun _ => 0)))] := hD
  refine lv_aload_n hx hb dX12_quarrels_5 rfl (lv_at hl 0 rfl) ?_
  refine va_get (D := D) (ci := 11) (v := .int 0) (C := RX12) (T := TX12) (N := 50) hx hb hts inw_X12_quarrels_X12 hown hK hP 0 rfl rfl 47 (by decide) (hts (.fieldLink RX12 297 "EarTableModel" "quarrelMany" "I") (by decide +kernel)) (fun _ h9 => h9) rfl dX12_quarrels_6 ?_
  have hP9 := hP.sub (ws' := [(h0, .inr (11, [v0, v1, v2, v3, v4, v5, v6, v7, v8, v9, v10, v11, v12, v13, v14, v15, .ref h1, v16, v17, v18, .int 0, v19, v20, v21, v22, v23, v24, v25, v26, v27, v28, v29, v30, v31, v32, v33, v34, v35, v36, v37, v38, v39, v40, v41, v42, v43, v44, .int 0, .int (-1), .long 0])), (h1, .inl (cI, 2, .inl (fun _ => 0)))]) [0, 1] rfl
  have hD9 := hD.sub (ws' := [(h0, .inr (11, [v0, v1, v2, v3, v4, v5, v6, v7, v8, v9, v10, v11, v12, v13, v14, v15, .ref h1, v16, v17, v18, .int 0, v19, v20, v21, v22, v23, v24, v25, v26, v27, v28, v29, v30, v31, v32, v33, v34, v35, v36, v37, v38, v39, v40, v41, v42, v43, v44, .int 0, .int (-1), .long 0])), (h1, .inl (cI, 2, .inl (fun _ => 0)))]) [0, 1] (by decide) rfl
  exact W.iret (v := 0) hx hb hr (fun t ht hW => ⟨⟨0, (), rfl, rfl, by rw [ht]; exact hP9, hD9⟩, hS.F ht⟩) hS.2.2 dX12_quarrels_9
def o_X1_quarrelSpot : List Cond := [.fieldLink RX1 39 "EarTable$Grid" "lines" "I"]
def u_X1_quarrelSpot : List Cond := .code yX1_quarrelSpot cX1_quarrelSpot 5 (some .int) :: (o_X1_quarrelSpot ++ (wsX10 ++ ([] : List Cond)))
theorem inw_X1_quarrelSpot_X1 : ∀ w ∈ wsX10, w ∈ u_X1_quarrelSpot := fun w h => List.mem_cons_of_mem _ (List.mem_append_right _ (List.mem_append_left _ h))
set_option maxRecDepth 20000 in
theorem good_X1_quarrelSpot : u_X1_quarrelSpot.all goodWord = true := by decide +kernel
set_option maxRecDepth 20000 in
theorem in_X1_quarrelSpot : ∀ w ∈ u_X1_quarrelSpot, w ∈ lw_tbl := ma_cons inc_X1_quarrelSpot (ma_app (ma_pos o_X1_quarrelSpot [163] (by decide +kernel)) (ma_app inb_X1 ma_nil))
set_option maxHeartbeats 4000000 in
set_option maxRecDepth 100000 in
theorem c_X1_quarrelSpot (l : Launch) (D : va_G) (cI cJ cZ cB : ClassId) (sz : Nat) (h0 : Nat) (v0 : Value) (v1 : Value) (v2 : Value) (v3 : Value) (v4 : Value) (v5 : Value) (v6 : Value) (p1 : Int32) : Met l yX1_quarrelSpot u_X1_quarrelSpot ({ frames := 0, cells := 0, slots := 0, locals := 0 }) (va_Pc [.ref h0, .int p1] (kPre D cI cJ cZ cB [(h0, .inr (1, [v0, v1, v2, v3, v4, v5, .int 0, v6]))] sz)) (va_Qi (fun (r : Int32) (_ : Unit) => r = (-1)) (kB D (fun (u : Unit) => [(h0, .inr (1, [v0, v1, v2, v3, v4, v5, .int 0, v6]))]) (va_A [(h0, .inr (1, [v0, v1, v2, v3, v4, v5, .int 0, v6]))] sz)) (va_A [(h0, .inr (1, [v0, v1, v2, v3, v4, v5, .int 0, v6]))] sz)) 0 0 (va_A [(h0, .inr (1, [v0, v1, v2, v3, v4, v5, .int 0, v6]))] sz) := by
  refine Met.ofW (cc := cX1_quarrelSpot) (maxL := 5) (ret := (some .int)) (by decide) rfl ?_
  intro p e s m args below meth c s₁ B hml hv
  obtain ⟨rfl, hsz, hP, hK, hN, hD0⟩ := hv
  have hx := B.exec
  have hb := B.bytes
  have hr := B.returns
  have hts := atoms_spec (ws := u_X1_quarrelSpot) B.pre
  have hown : s.vm.findClass RX1 = some m.cls := findClass_of_methodNamed B.named
  have hlocks := B.notSynchronized
  subst hsz
  have hD := hD0.self (sz := s.heap.size)
  generalize hAe : va_A [(h0, .inr (1, [v0, v1, v2, v3, v4, v5, .int 0, v6]))] s.heap.size = A at hD ⊢
  have hA : ∀ q : Nat, s.heap.size ≤ q → A q := fun q h => by rw [← hAe]; exact Or.inr h
  have hS : va_S A s.heap s.heap [] := va_S.rf
  have hP : va_P D vwCl [(h0, .inr (1, [v0, v1, v2, v3, v4, v5, .int 0, v6]))] s.heap := hP
  have hl := lv_entry ([.ref h0, .int p1]) (n := 5) (Nat.le_of_ble_eq_true rfl)
  rw [lg_entry_eq]
  generalize (lg_sl ([.ref h0, .int p1]) ++ List.replicate (5 - (lg_sl ([.ref h0, .int p1])).length) Slot.unset).toArray = ls at hl ⊢
  have hl : lv_has ls 5 [(0, .ref h0), (1, .int p1)] := hl
  obtain ⟨H, hHe⟩ : ∃ H, s.heap = H := ⟨_, rfl⟩
  have hP : va_P D vwCl [(h0, .inr (1, [v0, v1, v2, v3, v4, v5, .int 0, v6]))] H := by rw [← hHe]; exact hP
  have hS : va_S A s.heap H [] := by rw [← hHe]; exact hS
  refine kn_heap hHe ?_
  refine lv_iload_n hx hb dX1_quarrelSpot_0 rfl (lv_at hl 1 rfl) ?_
  refine lv_istore_n (lv' := [(2, .int p1), (0, .ref h0), (1, .int p1)]) hx hb dX1_quarrelSpot_1 rfl hl (by decide) rfl (fun ls hl => ?_)
  refine lv_iconst (v := 0) hx hb dX1_quarrelSpot_2 (by decide) ?_
  refine lv_istore_n (lv' := [(3, .int 0), (2, .int p1), (0, .ref h0), (1, .int p1)]) hx hb dX1_quarrelSpot_3 rfl hl (by decide) rfl (fun ls hl => ?_)
  refine lv_iload_n hx hb dX1_quarrelSpot_4 rfl (lv_at hl 0 rfl) ?_
  refine lv_aload_n hx hb dX1_quarrelSpot_5 rfl (lv_at hl 2 rfl) ?_
  refine va_get (D := D) (ci := 1) (v := .int 0) (C := RX1) (T := TX1) (N := 8) hx hb hts inw_X1_quarrelSpot_X1 hown hK hP 0 rfl rfl 6 (by decide) (hts (.fieldLink RX1 39 "EarTable$Grid" "lines" "I") (by decide +kernel)) (fun _ h9 => h9) rfl dX1_quarrelSpot_6 ?_
  refine lv_icmp_ge (tgt := 68) hx hb dX1_quarrelSpot_9 (by decide) (fun c_732 => ?_) (fun c_732 => ?_)
  · skip
    refine lv_iconst (v := (-1)) hx hb dX1_quarrelSpot_68 (by decide) ?_
    have hP9 := hP.sub (ws' := [(h0, .inr (1, [v0, v1, v2, v3, v4, v5, .int 0, v6]))]) [0] rfl
    have hD9 := hD.sub (ws' := [(h0, .inr (1, [v0, v1, v2, v3, v4, v5, .int 0, v6]))]) [0] (by decide) rfl
    exact W.iret (v := (-1)) hx hb hr (fun t ht hW => ⟨⟨(-1), (), rfl, rfl, by rw [ht]; exact hP9, hD9⟩, hS.F ht⟩) hS.2.2 dX1_quarrelSpot_69
  · skip
    exact absurd rfl c_732
