def o_X11_cut : List Cond := [.fieldLink RX11 28 "EarTable" "grid" "LEarTable$Grid;", .methodLink RX11 144 yX1_hasColumn, .instanceMethod yX1_hasColumn, .selects RX1 yX1_hasColumn yX1_hasColumn, .initialized RX1]
def u_X11_cut : List Cond := .code yX11_cut cX11_cut 4 (some .int) :: (o_X11_cut ++ (u_X1_hasColumn ++ (wsX110 ++ ([] : List Cond))))
theorem gs_X11_cut__X1_hasColumn : GoodIn u_X11_cut u_X1_hasColumn := goodIn_sub (fun w h => List.mem_cons_of_mem _ (List.mem_append_right _ (List.mem_append_left _ h))) good_X1_hasColumn
theorem inw_X11_cut_X11 : ∀ w ∈ wsX110, w ∈ u_X11_cut := fun w h => List.mem_cons_of_mem _ (List.mem_append_right _ (List.mem_append_right _ (List.mem_append_left _ h)))
set_option maxRecDepth 20000 in
theorem good_X11_cut : u_X11_cut.all goodWord = true := by decide +kernel
set_option maxRecDepth 20000 in
theorem in_X11_cut : ∀ w ∈ u_X11_cut, w ∈ lw_tbl := ma_cons inc_X11_cut (ma_app (ma_pos o_X11_cut [386, 581, 582, 583, 68] (by decide +kernel)) (ma_app in_X1_hasColumn (ma_app inb_X11 ma_nil)))
set_option maxHeartbeats 4000000 in
set_option maxRecDepth 100000 in
theorem c_X11_cut (l : Launch) (D : va_G) (cI cJ cZ cB : ClassId) (sz : Nat) (h0 : Nat) (h1 : Nat) (v0 : Value) (v1 : Value) (v2 : Value) (v3 : Value) (v4 : Value) (v5 : Value) (v6 : Value) (v7 : Value) (v8 : Value) (v9 : Value) (v10 : Value) (v11 : Value) (v12 : Value) (v13 : Value) (v14 : Value) (v15 : Value) (v16 : Value) (v17 : Value) (v18 : Value) (p1 : Int32) (p2 : Int32) (p3 : Int32) : Met l yX11_cut u_X11_cut ({ frames := 1, cells := 0, slots := 0, locals := 21 }) (va_Pc [.ref h0, .int p1, .int p2, .int p3] (kPre D cI cJ cZ cB [(h0, .inr (10, [v0, v1, .ref h1, v2, v3, v4, v5, v6, v7, v8, v9, v10, v11])), (h1, .inr (1, [v12, v13, v14, v15, v16, .int 0, v17, v18]))] sz)) (va_Qi (fun (r : Int32) (_ : Unit) => r = (-1)) (kB D (fun (u : Unit) => [(h0, .inr (10, [v0, v1, .ref h1, v2, v3, v4, v5, v6, v7, v8, v9, v10, v11])), (h1, .inr (1, [v12, v13, v14, v15, v16, .int 0, v17, v18]))]) (va_A [(h0, .inr (10, [v0, v1, .ref h1, v2, v3, v4, v5, v6, v7, v8, v9, v10, v11])), (h1, .inr (1, [v12, v13, v14, v15, v16, .int 0, v17, v18]))] sz)) (va_A [(h0, .inr (10, [v0, v1, .ref h1, v2, v3, v4, v5, v6, v7, v8, v9, v10, v11])), (h1, .inr (1, [v12, v13, v14, v15, v16, .int 0, v17, v18]))] sz)) 0 0 (va_A [(h0, .inr (10, [v0, v1, .ref h1, v2, v3, v4, v5, v6, v7, v8, v9, v10, v11])), (h1, .inr (1, [v12, v13, v14, v15, v16, .int 0, v17, v18]))] sz) := by
  refine Met.ofW (cc := cX11_cut) (maxL := 4) (ret := (some .int)) (by decide) rfl ?_
  intro p e s m args below meth c s₁ B hml hv
  obtain ⟨rfl, hsz, hP, hK, hN, hD0⟩ := hv
  have hx := B.exec
  have hb := B.bytes
  have hr := B.returns
  have hts := atoms_spec (ws := u_X11_cut) B.pre
  have hown : s.vm.findClass RX11 = some m.cls := findClass_of_methodNamed B.named
  have hlocks := B.notSynchronized
  subst hsz
  have hD := hD0.self (sz := s.heap.size)
  generalize hAe : va_A [(h0, .inr (10, [v0, v1, .ref h1, v2, v3, v4, v5, v6, v7, v8, v9, v10, v11])), (h1, .inr (1, [v12, v13, v14, v15, v16, .int 0, v17, v18]))] s.heap.size = A at hD ⊢
  have hA : ∀ q : Nat, s.heap.size ≤ q → A q := fun q h => by rw [← hAe]; exact Or.inr h
  have hS : va_S A s.heap s.heap [] := va_S.rf
  have hP : va_P D vwCl [(h0, .inr (10, [v0, v1, .ref h1, v2, v3, v4, v5, v6, v7, v8, v9, v10, v11])), (h1, .inr (1, [v12, v13, v14, v15, v16, .int 0, v17, v18]))] s.heap := hP
  have hl := lv_entry ([.ref h0, .int p1, .int p2, .int p3]) (n := 4) (Nat.le_of_ble_eq_true rfl)
  rw [lg_entry_eq]
  generalize (lg_sl ([.ref h0, .int p1, .int p2, .int p3]) ++ List.replicate (4 - (lg_sl ([.ref h0, .int p1, .int p2, .int p3])).length) Slot.unset).toArray = ls at hl ⊢
  have hl : lv_has ls 4 [(0, .ref h0), (1, .int p1), (2, .int p2), (3, .int p3)] := hl
  obtain ⟨H, hHe⟩ : ∃ H, s.heap = H := ⟨_, rfl⟩
  have hP : va_P D vwCl [(h0, .inr (10, [v0, v1, .ref h1, v2, v3, v4, v5, v6, v7, v8, v9, v10, v11])), (h1, .inr (1, [v12, v13, v14, v15, v16, .int 0, v17, v18]))] H := by rw [← hHe]; exact hP
  have hS : va_S A s.heap H [] := by rw [← hHe]; exact hS
  refine kn_heap hHe ?_
  refine lv_aload_n hx hb dX11_cut_0 rfl (lv_at hl 0 rfl) ?_
  refine va_get (D := D) (ci := 10) (v := .ref h1) (C := RX11) (T := TX11) (N := 13) hx hb hts inw_X11_cut_X11 hown hK hP 0 rfl rfl 2 (by decide) (hts (.fieldLink RX11 28 "EarTable" "grid" "LEarTable$Grid;") (by decide +kernel)) (fun _ h9 => h9) rfl dX11_cut_1 ?_
  refine lv_iload_n hx hb dX11_cut_4 rfl (lv_at hl 1 rfl) ?_
  have hPc := hP.sub (ws' := [(h1, .inr (1, [v12, v13, v14, v15, v16, .int 0, v17, v18]))]) [1] rfl
  have hDc := hD.sub (ws' := [(h1, .inr (1, [v12, v13, v14, v15, v16, .int 0, v17, v18]))]) [1] (by decide) rfl
  refine kn_calli (wr := [(h0, .inr (10, [v0, v1, .ref h1, v2, v3, v4, v5, v6, v7, v8, v9, v10, v11]))]) (cells' := 0) (slots' := 0) (va_runV (As := [.int p1]) (rest := []) ⟨hx, hb, hml, hown, hts⟩ (c_X1_hasColumn l D cI cJ cZ cB H.size h1 v12 v13 v14 v15 v16 v17 v18 p1) (cwV 1 hts (goodIn_app (goodIn_of _ (by decide +kernel)) gs_X11_cut__X1_hasColumn) rfl rfl rfl (by decide +kernel) ⟨(Nat.le_of_ble_eq_true rfl), (Nat.le_of_ble_eq_true rfl)⟩) (kp_V 0 1 rfl rfl hPc hK hN hDc) rfl rfl hl.1 rfl (lv_room (Nat.le_of_ble_eq_true rfl)) dX11_cut_5 ⟨(Nat.le_of_ble_eq_true rfl), (Nat.le_of_ble_eq_true rfl)⟩) hS hA hP hD [1] [0] rfl rfl (by decide) (by decide) (Nat.le_of_ble_eq_true rfl) (Nat.le_of_ble_eq_true rfl) (fun r_520 u H locs hw_521 hP hD hS => ?_)
  have hP : va_P D vwCl [(h0, .inr (10, [v0, v1, .ref h1, v2, v3, v4, v5, v6, v7, v8, v9, v10, v11])), (h1, .inr (1, [v12, v13, v14, v15, v16, .int 0, v17, v18]))] H := hP
  have hD : va_D A [(h0, .inr (10, [v0, v1, .ref h1, v2, v3, v4, v5, v6, v7, v8, v9, v10, v11])), (h1, .inr (1, [v12, v13, v14, v15, v16, .int 0, v17, v18]))] := hD
  subst hw_521
  refine lv_if_eq (tgt := 20) hx hb dX11_cut_8 (by decide) (fun c_522 => ?_) (fun c_522 => ?_)
  · skip
    refine lv_iconst (v := (-1)) hx hb dX11_cut_20 (by decide) ?_
    have hP9 := hP.sub (ws' := [(h0, .inr (10, [v0, v1, .ref h1, v2, v3, v4, v5, v6, v7, v8, v9, v10, v11])), (h1, .inr (1, [v12, v13, v14, v15, v16, .int 0, v17, v18]))]) [0, 1] rfl
    have hD9 := hD.sub (ws' := [(h0, .inr (10, [v0, v1, .ref h1, v2, v3, v4, v5, v6, v7, v8, v9, v10, v11])), (h1, .inr (1, [v12, v13, v14, v15, v16, .int 0, v17, v18]))]) [0, 1] (by decide) rfl
    exact W.iret (v := (-1)) hx hb hr (fun t ht hW => ⟨⟨(-1), (), rfl, rfl, by rw [ht]; exact hP9, hD9⟩, hS.F ht⟩) hS.2.2 dX11_cut_21
  · skip
    exact absurd rfl c_522
def o_X12_cut : List Cond := [.methodLink RX12 159 yX12_isColumn, .instanceMethod yX12_isColumn, .selects RX12 yX12_isColumn yX12_isColumn, .initialized RX12]
def u_X12_cut : List Cond := .code yX12_cut cX12_cut 8 (some .int) :: (o_X12_cut ++ (u_X12_isColumn ++ ([] : List Cond)))
theorem gs_X12_cut__X12_isColumn : GoodIn u_X12_cut u_X12_isColumn := goodIn_sub (fun w h => List.mem_cons_of_mem _ (List.mem_append_right _ (List.mem_append_left _ h))) good_X12_isColumn
set_option maxRecDepth 20000 in
theorem good_X12_cut : u_X12_cut.all goodWord = true := by decide +kernel
set_option maxRecDepth 20000 in
theorem in_X12_cut : ∀ w ∈ u_X12_cut, w ∈ lw_tbl := ma_cons inc_X12_cut (ma_app (ma_pos o_X12_cut [910, 912, 39, 76] (by decide +kernel)) (ma_app in_X12_isColumn ma_nil))
set_option maxHeartbeats 4000000 in
set_option maxRecDepth 100000 in
theorem c_X12_cut (l : Launch) (D : va_G) (cI cJ cZ cB : ClassId) (sz : Nat) (h0 : Nat) (h1 : Nat) (v0 : Value) (v1 : Value) (v2 : Value) (v3 : Value) (v4 : Value) (v5 : Value) (v6 : Value) (v7 : Value) (v8 : Value) (v9 : Value) (v10 : Value) (v11 : Value) (v12 : Value) (v13 : Value) (v14 : Value) (v15 : Value) (v16 : Value) (v17 : Value) (v18 : Value) (v19 : Value) (v20 : Value) (v21 : Value) (v22 : Value) (v23 : Value) (v24 : Value) (v25 : Value) (v26 : Value) (v27 : Value) (v28 : Value) (v29 : Value) (v30 : Value) (v31 : Value) (v32 : Value) (v33 : Value) (v34 : Value) (v35 : Value) (v36 : Value) (v37 : Value) (v38 : Value) (v39 : Value) (v40 : Value) (v41 : Value) (v42 : Value) (v43 : Value) (v44 : Value) (v45 : Value) (v46 : Value) (v47 : Value) (p1 : Int32) (p2 : Int32) (p3 : Int32) : Met l yX12_cut u_X12_cut ({ frames := 1, cells := 0, slots := 0, locals := 21 }) (va_Pc [.ref h0, .int p1, .int p2, .int p3] (kPre D cI cJ cZ cB [(h0, .inr (11, [v0, v1, v2, v3, v4, v5, v6, v7, v8, v9, v10, v11, v12, v13, v14, v15, v16, .ref h1, v17, v18, .int 0, v19, v20, v21, v22, v23, v24, v25, v26, v27, v28, v29, v30, v31, v32, v33, v34, v35, v36, v37, v38, v39, v40, v41, v42, v43, v44, v45, v46, v47])), (h1, .inl (cI, 2, .inl (fun _ => 0)))] sz)) (va_Qi (fun (r : Int32) (_ : Unit) => r = (-1)) (kB D (fun (u : Unit) => [(h0, .inr (11, [v0, v1, v2, v3, v4, v5, v6, v7, v8, v9, v10, v11, v12, v13, v14, v15, v16, .ref h1, v17, v18, .int 0, v19, v20, v21, v22, v23, v24, v25, v26, v27, v28, v29, v30, v31, v32, v33, v34, v35, v36, v37, v38, v39, v40, v41, v42, v43, v44, v45, v46, v47])), (h1, .inl (cI, 2, .inl (fun _ => 0)))]) (va_A [(h0, .inr (11, [v0, v1, v2, v3, v4, v5, v6, v7, v8, v9, v10, v11, v12, v13, v14, v15, v16, .ref h1, v17, v18, .int 0, v19, v20, v21, v22, v23, v24, v25, v26, v27, v28, v29, v30, v31, v32, v33, v34, v35, v36, v37, v38, v39, v40, v41, v42, v43, v44, v45, v46, v47])), (h1, .inl (cI, 2, .inl (fun _ => 0)))] sz)) (va_A [(h0, .inr (11, [v0, v1, v2, v3, v4, v5, v6, v7, v8, v9, v10, v11, v12, v13, v14, v15, v16, .ref h1, v17, v18, .int 0, v19, v20, v21, v22, v23, v24, v25, v26, v27, v28, v29, v30, v31, v32, v33, v34, v35, v36, v37, v38, v39, v40, v41, v42, v43, v44, v45, v46, v47])), (h1, .inl (cI, 2, .inl (fun _ => 0)))] sz)) 0 0 (va_A [(h0, .inr (11, [v0, v1, v2, v3, v4, v5, v6, v7, v8, v9, v10, v11, v12, v13, v14, v15, v16, .ref h1, v17, v18, .int 0, v19, v20, v21, v22, v23, v24, v25, v26, v27, v28, v29, v30, v31, v32, v33, v34, v35, v36, v37, v38, v39, v40, v41, v42, v43, v44, v45, v46, v47])), (h1, .inl (cI, 2, .inl (fun _ => 0)))] sz) := by
  refine Met.ofW (cc := cX12_cut) (maxL := 8) (ret := (some .int)) (by decide) rfl ?_
  intro p e s m args below meth c s₁ B hml hv
  obtain ⟨rfl, hsz, hP, hK, hN, hD0⟩ := hv
  have hx := B.exec
  have hb := B.bytes
  have hr := B.returns
  have hts := atoms_spec (ws := u_X12_cut) B.pre
  have hown : s.vm.findClass RX12 = some m.cls := findClass_of_methodNamed B.named
  have hlocks := B.notSynchronized
  subst hsz
  have hD := hD0.self (sz := s.heap.size)
  generalize hAe : va_A [(h0, .inr (11, [v0, v1, v2, v3, v4, v5, v6, v7, v8, v9, v10, v11, v12, v13, v14, v15, v16, .ref h1, v17, v18, .int 0, v19, v20, v21, v22, v23, v24, v25, v26, v27, v28, v29, v30, v31, v32, v33, v34, v35, v36, v37, v38, v39, v40, v41, v42, v43, v44, v45, v46, v47])), (h1, .inl (cI, 2, .inl (fun _ => 0)))] s.heap.size = A at hD ⊢
  have hA : ∀ q : Nat, s.heap.size ≤ q → A q := fun q h => by rw [← hAe]; exact Or.inr h
  have hS : va_S A s.heap s.heap [] := va_S.rf
  have hP : va_P D vwCl [(h0, .inr (11, [v0, v1, v2, v3, v4, v5, v6, v7, v8, v9, v10, v11, v12, v13, v14, v15, v16, .ref h1, v17, v18, .int 0, v19, v20, v21, v22, v23, v24, v25, v26, v27, v28, v29, v30, v31, v32, v33, v34, v35, v36, v37, v38, v39, v40, v41, v42, v43, v44, v45, v46, v47])), (h1, .inl (cI, 2, .inl (fun _ => 0)))] s.heap := hP
  have hl := lv_entry ([.ref h0, .int p1, .int p2, .int p3]) (n := 8) (Nat.le_of_ble_eq_true rfl)
  rw [lg_entry_eq]
  generalize (lg_sl ([.ref h0, .int p1, .int p2, .int p3]) ++ List.replicate (8 - (lg_sl ([.ref h0, .int p1, .int p2, .int p3])).length) Slot.unset).toArray = ls at hl ⊢
  have hl : lv_has ls 8 [(0, .ref h0), (1, .int p1), (2, .int p2), (3, .int p3)] := hl
  obtain ⟨H, hHe⟩ : ∃ H, s.heap = H := ⟨_, rfl⟩
  have hP : va_P D vwCl [(h0, .inr (11, [v0, v1, v2, v3, v4, v5, v6, v7, v8, v9, v10, v11, v12, v13, v14, v15, v16, .ref h1, v17, v18, .int 0, v19, v20, v21, v22, v23, v24, v25, v26, v27, v28, v29, v30, v31, v32, v33, v34, v35, v36, v37, v38, v39, v40, v41, v42, v43, v44, v45, v46, v47])), (h1, .inl (cI, 2, .inl (fun _ => 0)))] H := by rw [← hHe]; exact hP
  have hS : va_S A s.heap H [] := by rw [← hHe]; exact hS
  refine kn_heap hHe ?_
  refine lv_aload_n hx hb dX12_cut_0 rfl (lv_at hl 0 rfl) ?_
  refine lv_iload_n hx hb dX12_cut_1 rfl (lv_at hl 1 rfl) ?_
  have hPc := hP.sub (ws' := [(h0, .inr (11, [v0, v1, v2, v3, v4, v5, v6, v7, v8, v9, v10, v11, v12, v13, v14, v15, v16, .ref h1, v17, v18, .int 0, v19, v20, v21, v22, v23, v24, v25, v26, v27, v28, v29, v30, v31, v32, v33, v34, v35, v36, v37, v38, v39, v40, v41, v42, v43, v44, v45, v46, v47])), (h1, .inl (cI, 2, .inl (fun _ => 0)))]) [0, 1] rfl
  have hDc := hD.sub (ws' := [(h0, .inr (11, [v0, v1, v2, v3, v4, v5, v6, v7, v8, v9, v10, v11, v12, v13, v14, v15, v16, .ref h1, v17, v18, .int 0, v19, v20, v21, v22, v23, v24, v25, v26, v27, v28, v29, v30, v31, v32, v33, v34, v35, v36, v37, v38, v39, v40, v41, v42, v43, v44, v45, v46, v47])), (h1, .inl (cI, 2, .inl (fun _ => 0)))]) [0, 1] (by decide) rfl
  refine kn_calli (wr := []) (cells' := 0) (slots' := 0) (va_runV (As := [.int p1]) (rest := []) ⟨hx, hb, hml, hown, hts⟩ (c_X12_isColumn l D cI cJ cZ cB H.size h0 h1 v0 v1 v2 v3 v4 v5 v6 v7 v8 v9 v10 v11 v12 v13 v14 v15 v16 v17 v18 v19 v20 v21 v22 v23 v24 v25 v26 v27 v28 v29 v30 v31 v32 v33 v34 v35 v36 v37 v38 v39 v40 v41 v42 v43 v44 v45 v46 v47 p1) (cwV 1 hts (goodIn_app (goodIn_of _ (by decide +kernel)) gs_X12_cut__X12_isColumn) rfl rfl rfl (by decide +kernel) ⟨(Nat.le_of_ble_eq_true rfl), (Nat.le_of_ble_eq_true rfl)⟩) (kp_V 0 11 rfl rfl hPc hK hN hDc) rfl rfl hl.1 rfl (lv_room (Nat.le_of_ble_eq_true rfl)) dX12_cut_2 ⟨(Nat.le_of_ble_eq_true rfl), (Nat.le_of_ble_eq_true rfl)⟩) hS hA hP hD [0, 1] [] rfl rfl (by decide) (by decide) (Nat.le_of_ble_eq_true rfl) (Nat.le_of_ble_eq_true rfl) (fun r_525 u H locs hw_526 hP hD hS => ?_)
  have hP : va_P D vwCl [(h0, .inr (11, [v0, v1, v2, v3, v4, v5, v6, v7, v8, v9, v10, v11, v12, v13, v14, v15, v16, .ref h1, v17, v18, .int 0, v19, v20, v21, v22, v23, v24, v25, v26, v27, v28, v29, v30, v31, v32, v33, v34, v35, v36, v37, v38, v39, v40, v41, v42, v43, v44, v45, v46, v47])), (h1, .inl (cI, 2, .inl (fun _ => 0)))] H := hP
  have hD : va_D A [(h0, .inr (11, [v0, v1, v2, v3, v4, v5, v6, v7, v8, v9, v10, v11, v12, v13, v14, v15, v16, .ref h1, v17, v18, .int 0, v19, v20, v21, v22, v23, v24, v25, v26, v27, v28, v29, v30, v31, v32, v33, v34, v35, v36, v37, v38, v39, v40, v41, v42, v43, v44, v45, v46, v47])), (h1, .inl (cI, 2, .inl (fun _ => 0)))] := hD
  subst hw_526
  refine lv_if_eq (tgt := 17) hx hb dX12_cut_5 (by decide) (fun c_527 => ?_) (fun c_527 => ?_)
  · skip
    refine lv_iconst (v := (-1)) hx hb dX12_cut_17 (by decide) ?_
    have hP9 := hP.sub (ws' := [(h0, .inr (11, [v0, v1, v2, v3, v4, v5, v6, v7, v8, v9, v10, v11, v12, v13, v14, v15, v16, .ref h1, v17, v18, .int 0, v19, v20, v21, v22, v23, v24, v25, v26, v27, v28, v29, v30, v31, v32, v33, v34, v35, v36, v37, v38, v39, v40, v41, v42, v43, v44, v45, v46, v47])), (h1, .inl (cI, 2, .inl (fun _ => 0)))]) [0, 1] rfl
    have hD9 := hD.sub (ws' := [(h0, .inr (11, [v0, v1, v2, v3, v4, v5, v6, v7, v8, v9, v10, v11, v12, v13, v14, v15, v16, .ref h1, v17, v18, .int 0, v19, v20, v21, v22, v23, v24, v25, v26, v27, v28, v29, v30, v31, v32, v33, v34, v35, v36, v37, v38, v39, v40, v41, v42, v43, v44, v45, v46, v47])), (h1, .inl (cI, 2, .inl (fun _ => 0)))]) [0, 1] (by decide) rfl
    exact W.iret (v := (-1)) hx hb hr (fun t ht hW => ⟨⟨(-1), (), rfl, rfl, by rw [ht]; exact hP9, hD9⟩, hS.F ht⟩) hS.2.2 dX12_cut_18
  · skip
    exact absurd rfl c_527
def o_X11_sort : List Cond := [.fieldLink RX11 28 "EarTable" "grid" "LEarTable$Grid;", .methodLink RX11 144 yX1_hasColumn, .instanceMethod yX1_hasColumn, .selects RX1 yX1_hasColumn yX1_hasColumn, .initialized RX1]
def u_X11_sort : List Cond := .code yX11_sort cX11_sort 3 (some .int) :: (o_X11_sort ++ (u_X1_hasColumn ++ (wsX110 ++ ([] : List Cond))))
theorem gs_X11_sort__X1_hasColumn : GoodIn u_X11_sort u_X1_hasColumn := goodIn_sub (fun w h => List.mem_cons_of_mem _ (List.mem_append_right _ (List.mem_append_left _ h))) good_X1_hasColumn
theorem inw_X11_sort_X11 : ∀ w ∈ wsX110, w ∈ u_X11_sort := fun w h => List.mem_cons_of_mem _ (List.mem_append_right _ (List.mem_append_right _ (List.mem_append_left _ h)))
set_option maxRecDepth 20000 in
theorem good_X11_sort : u_X11_sort.all goodWord = true := by decide +kernel
set_option maxRecDepth 20000 in
theorem in_X11_sort : ∀ w ∈ u_X11_sort, w ∈ lw_tbl := ma_cons inc_X11_sort (ma_app (ma_pos o_X11_sort [386, 581, 582, 583, 68] (by decide +kernel)) (ma_app in_X1_hasColumn (ma_app inb_X11 ma_nil)))
set_option maxHeartbeats 4000000 in
set_option maxRecDepth 100000 in
theorem c_X11_sort (l : Launch) (D : va_G) (cI cJ cZ cB : ClassId) (sz : Nat) (h0 : Nat) (h1 : Nat) (v0 : Value) (v1 : Value) (v2 : Value) (v3 : Value) (v4 : Value) (v5 : Value) (v6 : Value) (v7 : Value) (v8 : Value) (v9 : Value) (v10 : Value) (v11 : Value) (v12 : Value) (v13 : Value) (v14 : Value) (v15 : Value) (v16 : Value) (v17 : Value) (v18 : Value) (p1 : Int32) : Met l yX11_sort u_X11_sort ({ frames := 1, cells := 0, slots := 0, locals := 21 }) (va_Pc [.ref h0, .int p1, .int 0] (kPre D cI cJ cZ cB [(h0, .inr (10, [v0, v1, .ref h1, v2, v3, v4, v5, v6, v7, v8, v9, v10, v11])), (h1, .inr (1, [v12, v13, v14, v15, v16, .int 0, v17, v18]))] sz)) (va_Qi (fun (r : Int32) (_ : Unit) => r = (-1)) (kB D (fun (u : Unit) => [(h0, .inr (10, [v0, v1, .ref h1, v2, v3, v4, v5, v6, v7, v8, v9, v10, v11])), (h1, .inr (1, [v12, v13, v14, v15, v16, .int 0, v17, v18]))]) (va_A [(h0, .inr (10, [v0, v1, .ref h1, v2, v3, v4, v5, v6, v7, v8, v9, v10, v11])), (h1, .inr (1, [v12, v13, v14, v15, v16, .int 0, v17, v18]))] sz)) (va_A [(h0, .inr (10, [v0, v1, .ref h1, v2, v3, v4, v5, v6, v7, v8, v9, v10, v11])), (h1, .inr (1, [v12, v13, v14, v15, v16, .int 0, v17, v18]))] sz)) 0 0 (va_A [(h0, .inr (10, [v0, v1, .ref h1, v2, v3, v4, v5, v6, v7, v8, v9, v10, v11])), (h1, .inr (1, [v12, v13, v14, v15, v16, .int 0, v17, v18]))] sz) := by
  refine Met.ofW (cc := cX11_sort) (maxL := 3) (ret := (some .int)) (by decide) rfl ?_
  intro p e s m args below meth c s₁ B hml hv
  obtain ⟨rfl, hsz, hP, hK, hN, hD0⟩ := hv
  have hx := B.exec
  have hb := B.bytes
  have hr := B.returns
  have hts := atoms_spec (ws := u_X11_sort) B.pre
  have hown : s.vm.findClass RX11 = some m.cls := findClass_of_methodNamed B.named
  have hlocks := B.notSynchronized
  subst hsz
  have hD := hD0.self (sz := s.heap.size)
  generalize hAe : va_A [(h0, .inr (10, [v0, v1, .ref h1, v2, v3, v4, v5, v6, v7, v8, v9, v10, v11])), (h1, .inr (1, [v12, v13, v14, v15, v16, .int 0, v17, v18]))] s.heap.size = A at hD ⊢
  have hA : ∀ q : Nat, s.heap.size ≤ q → A q := fun q h => by rw [← hAe]; exact Or.inr h
  have hS : va_S A s.heap s.heap [] := va_S.rf
  have hP : va_P D vwCl [(h0, .inr (10, [v0, v1, .ref h1, v2, v3, v4, v5, v6, v7, v8, v9, v10, v11])), (h1, .inr (1, [v12, v13, v14, v15, v16, .int 0, v17, v18]))] s.heap := hP
  have hl := lv_entry ([.ref h0, .int p1, .int 0]) (n := 3) (Nat.le_of_ble_eq_true rfl)
  rw [lg_entry_eq]
  generalize (lg_sl ([.ref h0, .int p1, .int 0]) ++ List.replicate (3 - (lg_sl ([.ref h0, .int p1, .int 0])).length) Slot.unset).toArray = ls at hl ⊢
  have hl : lv_has ls 3 [(0, .ref h0), (1, .int p1), (2, .int 0)] := hl
  obtain ⟨H, hHe⟩ : ∃ H, s.heap = H := ⟨_, rfl⟩
  have hP : va_P D vwCl [(h0, .inr (10, [v0, v1, .ref h1, v2, v3, v4, v5, v6, v7, v8, v9, v10, v11])), (h1, .inr (1, [v12, v13, v14, v15, v16, .int 0, v17, v18]))] H := by rw [← hHe]; exact hP
  have hS : va_S A s.heap H [] := by rw [← hHe]; exact hS
  refine kn_heap hHe ?_
  refine lv_aload_n hx hb dX11_sort_0 rfl (lv_at hl 0 rfl) ?_
  refine va_get (D := D) (ci := 10) (v := .ref h1) (C := RX11) (T := TX11) (N := 13) hx hb hts inw_X11_sort_X11 hown hK hP 0 rfl rfl 2 (by decide) (hts (.fieldLink RX11 28 "EarTable" "grid" "LEarTable$Grid;") (by decide +kernel)) (fun _ h9 => h9) rfl dX11_sort_1 ?_
  refine lv_iload_n hx hb dX11_sort_4 rfl (lv_at hl 1 rfl) ?_
  have hPc := hP.sub (ws' := [(h1, .inr (1, [v12, v13, v14, v15, v16, .int 0, v17, v18]))]) [1] rfl
  have hDc := hD.sub (ws' := [(h1, .inr (1, [v12, v13, v14, v15, v16, .int 0, v17, v18]))]) [1] (by decide) rfl
  refine kn_calli (wr := [(h0, .inr (10, [v0, v1, .ref h1, v2, v3, v4, v5, v6, v7, v8, v9, v10, v11]))]) (cells' := 0) (slots' := 0) (va_runV (As := [.int p1]) (rest := []) ⟨hx, hb, hml, hown, hts⟩ (c_X1_hasColumn l D cI cJ cZ cB H.size h1 v12 v13 v14 v15 v16 v17 v18 p1) (cwV 1 hts (goodIn_app (goodIn_of _ (by decide +kernel)) gs_X11_sort__X1_hasColumn) rfl rfl rfl (by decide +kernel) ⟨(Nat.le_of_ble_eq_true rfl), (Nat.le_of_ble_eq_true rfl)⟩) (kp_V 0 1 rfl rfl hPc hK hN hDc) rfl rfl hl.1 rfl (lv_room (Nat.le_of_ble_eq_true rfl)) dX11_sort_5 ⟨(Nat.le_of_ble_eq_true rfl), (Nat.le_of_ble_eq_true rfl)⟩) hS hA hP hD [1] [0] rfl rfl (by decide) (by decide) (Nat.le_of_ble_eq_true rfl) (Nat.le_of_ble_eq_true rfl) (fun r_532 u H locs hw_533 hP hD hS => ?_)
  have hP : va_P D vwCl [(h0, .inr (10, [v0, v1, .ref h1, v2, v3, v4, v5, v6, v7, v8, v9, v10, v11])), (h1, .inr (1, [v12, v13, v14, v15, v16, .int 0, v17, v18]))] H := hP
  have hD : va_D A [(h0, .inr (10, [v0, v1, .ref h1, v2, v3, v4, v5, v6, v7, v8, v9, v10, v11])), (h1, .inr (1, [v12, v13, v14, v15, v16, .int 0, v17, v18]))] := hD
  subst hw_533
  refine lv_if_ne (tgt := 13) hx hb dX11_sort_8 (by decide) (fun c_534 => ?_) (fun c_534 => ?_)
  · skip
    exact absurd rfl c_534
  · skip
    refine lv_iconst (v := (-1)) hx hb dX11_sort_11 (by decide) ?_
    have hP9 := hP.sub (ws' := [(h0, .inr (10, [v0, v1, .ref h1, v2, v3, v4, v5, v6, v7, v8, v9, v10, v11])), (h1, .inr (1, [v12, v13, v14, v15, v16, .int 0, v17, v18]))]) [0, 1] rfl
    have hD9 := hD.sub (ws' := [(h0, .inr (10, [v0, v1, .ref h1, v2, v3, v4, v5, v6, v7, v8, v9, v10, v11])), (h1, .inr (1, [v12, v13, v14, v15, v16, .int 0, v17, v18]))]) [0, 1] (by decide) rfl
    exact W.iret (v := (-1)) hx hb hr (fun t ht hW => ⟨⟨(-1), (), rfl, rfl, by rw [ht]; exact hP9, hD9⟩, hS.F ht⟩) hS.2.2 dX11_sort_12
def o_X12_sort : List Cond := [.methodLink RX12 159 yX12_isColumn, .instanceMethod yX12_isColumn, .selects RX12 yX12_isColumn yX12_isColumn, .initialized RX12]
def u_X12_sort : List Cond := .code yX12_sort cX12_sort 6 (some .int) :: (o_X12_sort ++ (u_X12_isColumn ++ ([] : List Cond)))
theorem gs_X12_sort__X12_isColumn : GoodIn u_X12_sort u_X12_isColumn := goodIn_sub (fun w h => List.mem_cons_of_mem _ (List.mem_append_right _ (List.mem_append_left _ h))) good_X12_isColumn
set_option maxRecDepth 20000 in
theorem good_X12_sort : u_X12_sort.all goodWord = true := by decide +kernel
set_option maxRecDepth 20000 in
theorem in_X12_sort : ∀ w ∈ u_X12_sort, w ∈ lw_tbl := ma_cons inc_X12_sort (ma_app (ma_pos o_X12_sort [910, 912, 39, 76] (by decide +kernel)) (ma_app in_X12_isColumn ma_nil))
set_option maxHeartbeats 4000000 in
set_option maxRecDepth 100000 in
theorem c_X12_sort (l : Launch) (D : va_G) (cI cJ cZ cB : ClassId) (sz : Nat) (h0 : Nat) (h1 : Nat) (v0 : Value) (v1 : Value) (v2 : Value) (v3 : Value) (v4 : Value) (v5 : Value) (v6 : Value) (v7 : Value) (v8 : Value) (v9 : Value) (v10 : Value) (v11 : Value) (v12 : Value) (v13 : Value) (v14 : Value) (v15 : Value) (v16 : Value) (v17 : Value) (v18 : Value) (v19 : Value) (v20 : Value) (v21 : Value) (v22 : Value) (v23 : Value) (v24 : Value) (v25 : Value) (v26 : Value) (v27 : Value) (v28 : Value) (v29 : Value) (v30 : Value) (v31 : Value) (v32 : Value) (v33 : Value) (v34 : Value) (v35 : Value) (v36 : Value) (v37 : Value) (v38 : Value) (v39 : Value) (v40 : Value) (v41 : Value) (v42 : Value) (v43 : Value) (v44 : Value) (v45 : Value) (v46 : Value) (v47 : Value) (p1 : Int32) : Met l yX12_sort u_X12_sort ({ frames := 1, cells := 0, slots := 0, locals := 21 }) (va_Pc [.ref h0, .int p1, .int 0] (kPre D cI cJ cZ cB [(h0, .inr (11, [v0, v1, v2, v3, v4, v5, v6, v7, v8, v9, v10, v11, v12, v13, v14, v15, v16, .ref h1, v17, v18, .int 0, v19, v20, v21, v22, v23, v24, v25, v26, v27, v28, v29, v30, v31, v32, v33, v34, v35, v36, v37, v38, v39, v40, v41, v42, v43, v44, v45, v46, v47])), (h1, .inl (cI, 2, .inl (fun _ => 0)))] sz)) (va_Qi (fun (r : Int32) (_ : Unit) => r = (-1)) (kB D (fun (u : Unit) => [(h0, .inr (11, [v0, v1, v2, v3, v4, v5, v6, v7, v8, v9, v10, v11, v12, v13, v14, v15, v16, .ref h1, v17, v18, .int 0, v19, v20, v21, v22, v23, v24, v25, v26, v27, v28, v29, v30, v31, v32, v33, v34, v35, v36, v37, v38, v39, v40, v41, v42, v43, v44, v45, v46, v47])), (h1, .inl (cI, 2, .inl (fun _ => 0)))]) (va_A [(h0, .inr (11, [v0, v1, v2, v3, v4, v5, v6, v7, v8, v9, v10, v11, v12, v13, v14, v15, v16, .ref h1, v17, v18, .int 0, v19, v20, v21, v22, v23, v24, v25, v26, v27, v28, v29, v30, v31, v32, v33, v34, v35, v36, v37, v38, v39, v40, v41, v42, v43, v44, v45, v46, v47])), (h1, .inl (cI, 2, .inl (fun _ => 0)))] sz)) (va_A [(h0, .inr (11, [v0, v1, v2, v3, v4, v5, v6, v7, v8, v9, v10, v11, v12, v13, v14, v15, v16, .ref h1, v17, v18, .int 0, v19, v20, v21, v22, v23, v24, v25, v26, v27, v28, v29, v30, v31, v32, v33, v34, v35, v36, v37, v38, v39, v40, v41, v42, v43, v44, v45, v46, v47])), (h1, .inl (cI, 2, .inl (fun _ => 0)))] sz)) 0 0 (va_A [(h0, .inr (11, [v0, v1, v2, v3, v4, v5, v6, v7, v8, v9, v10, v11, v12, v13, v14, v15, v16, .ref h1, v17, v18, .int 0, v19, v20, v21, v22, v23, v24, v25, v26, v27, v28, v29, v30, v31, v32, v33, v34, v35, v36, v37, v38, v39, v40, v41, v42, v43, v44, v45, v46, v47])), (h1, .inl (cI, 2, .inl (fun _ => 0)))] sz) := by
  refine Met.ofW (cc := cX12_sort) (maxL := 6) (ret := (some .int)) (by decide) rfl ?_
  intro p e s m args below meth c s₁ B hml hv
  obtain ⟨rfl, hsz, hP, hK, hN, hD0⟩ := hv
  have hx := B.exec
  have hb := B.bytes
  have hr := B.returns
  have hts := atoms_spec (ws := u_X12_sort) B.pre
  have hown : s.vm.findClass RX12 = some m.cls := findClass_of_methodNamed B.named
  have hlocks := B.notSynchronized
  subst hsz
  have hD := hD0.self (sz := s.heap.size)
  generalize hAe : va_A [(h0, .inr (11, [v0, v1, v2, v3, v4, v5, v6, v7, v8, v9, v10, v11, v12, v13, v14, v15, v16, .ref h1, v17, v18, .int 0, v19, v20, v21, v22, v23, v24, v25, v26, v27, v28, v29, v30, v31, v32, v33, v34, v35, v36, v37, v38, v39, v40, v41, v42, v43, v44, v45, v46, v47])), (h1, .inl (cI, 2, .inl (fun _ => 0)))] s.heap.size = A at hD ⊢
  have hA : ∀ q : Nat, s.heap.size ≤ q → A q := fun q h => by rw [← hAe]; exact Or.inr h
  have hS : va_S A s.heap s.heap [] := va_S.rf
  have hP : va_P D vwCl [(h0, .inr (11, [v0, v1, v2, v3, v4, v5, v6, v7, v8, v9, v10, v11, v12, v13, v14, v15, v16, .ref h1, v17, v18, .int 0, v19, v20, v21, v22, v23, v24, v25, v26, v27, v28, v29, v30, v31, v32, v33, v34, v35, v36, v37, v38, v39, v40, v41, v42, v43, v44, v45, v46, v47])), (h1, .inl (cI, 2, .inl (fun _ => 0)))] s.heap := hP
  have hl := lv_entry ([.ref h0, .int p1, .int 0]) (n := 6) (Nat.le_of_ble_eq_true rfl)
  rw [lg_entry_eq]
  generalize (lg_sl ([.ref h0, .int p1, .int 0]) ++ List.replicate (6 - (lg_sl ([.ref h0, .int p1, .int 0])).length) Slot.unset).toArray = ls at hl ⊢
  have hl : lv_has ls 6 [(0, .ref h0), (1, .int p1), (2, .int 0)] := hl
  obtain ⟨H, hHe⟩ : ∃ H, s.heap = H := ⟨_, rfl⟩
  have hP : va_P D vwCl [(h0, .inr (11, [v0, v1, v2, v3, v4, v5, v6, v7, v8, v9, v10, v11, v12, v13, v14, v15, v16, .ref h1, v17, v18, .int 0, v19, v20, v21, v22, v23, v24, v25, v26, v27, v28, v29, v30, v31, v32, v33, v34, v35, v36, v37, v38, v39, v40, v41, v42, v43, v44, v45, v46, v47])), (h1, .inl (cI, 2, .inl (fun _ => 0)))] H := by rw [← hHe]; exact hP
  have hS : va_S A s.heap H [] := by rw [← hHe]; exact hS
  refine kn_heap hHe ?_
  refine lv_aload_n hx hb dX12_sort_0 rfl (lv_at hl 0 rfl) ?_
  refine lv_iload_n hx hb dX12_sort_1 rfl (lv_at hl 1 rfl) ?_
  have hPc := hP.sub (ws' := [(h0, .inr (11, [v0, v1, v2, v3, v4, v5, v6, v7, v8, v9, v10, v11, v12, v13, v14, v15, v16, .ref h1, v17, v18, .int 0, v19, v20, v21, v22, v23, v24, v25, v26, v27, v28, v29, v30, v31, v32, v33, v34, v35, v36, v37, v38, v39, v40, v41, v42, v43, v44, v45, v46, v47])), (h1, .inl (cI, 2, .inl (fun _ => 0)))]) [0, 1] rfl
  have hDc := hD.sub (ws' := [(h0, .inr (11, [v0, v1, v2, v3, v4, v5, v6, v7, v8, v9, v10, v11, v12, v13, v14, v15, v16, .ref h1, v17, v18, .int 0, v19, v20, v21, v22, v23, v24, v25, v26, v27, v28, v29, v30, v31, v32, v33, v34, v35, v36, v37, v38, v39, v40, v41, v42, v43, v44, v45, v46, v47])), (h1, .inl (cI, 2, .inl (fun _ => 0)))]) [0, 1] (by decide) rfl
  refine kn_calli (wr := []) (cells' := 0) (slots' := 0) (va_runV (As := [.int p1]) (rest := []) ⟨hx, hb, hml, hown, hts⟩ (c_X12_isColumn l D cI cJ cZ cB H.size h0 h1 v0 v1 v2 v3 v4 v5 v6 v7 v8 v9 v10 v11 v12 v13 v14 v15 v16 v17 v18 v19 v20 v21 v22 v23 v24 v25 v26 v27 v28 v29 v30 v31 v32 v33 v34 v35 v36 v37 v38 v39 v40 v41 v42 v43 v44 v45 v46 v47 p1) (cwV 1 hts (goodIn_app (goodIn_of _ (by decide +kernel)) gs_X12_sort__X12_isColumn) rfl rfl rfl (by decide +kernel) ⟨(Nat.le_of_ble_eq_true rfl), (Nat.le_of_ble_eq_true rfl)⟩) (kp_V 0 11 rfl rfl hPc hK hN hDc) rfl rfl hl.1 rfl (lv_room (Nat.le_of_ble_eq_true rfl)) dX12_sort_2 ⟨(Nat.le_of_ble_eq_true rfl), (Nat.le_of_ble_eq_true rfl)⟩) hS hA hP hD [0, 1] [] rfl rfl (by decide) (by decide) (Nat.le_of_ble_eq_true rfl) (Nat.le_of_ble_eq_true rfl) (fun r_538 u H locs hw_539 hP hD hS => ?_)
  have hP : va_P D vwCl [(h0, .inr (11, [v0, v1, v2, v3, v4, v5, v6, v7, v8, v9, v10, v11, v12, v13, v14, v15, v16, .ref h1, v17, v18, .int 0, v19, v20, v21, v22, v23, v24, v25, v26, v27, v28, v29, v30, v31, v32, v33, v34, v35, v36, v37, v38, v39, v40, v41, v42, v43, v44, v45, v46, v47])), (h1, .inl (cI, 2, .inl (fun _ => 0)))] H := hP
  have hD : va_D A [(h0, .inr (11, [v0, v1, v2, v3, v4, v5, v6, v7, v8, v9, v10, v11, v12, v13, v14, v15, v16, .ref h1, v17, v18, .int 0, v19, v20, v21, v22, v23, v24, v25, v26, v27, v28, v29, v30, v31, v32, v33, v34, v35, v36, v37, v38, v39, v40, v41, v42, v43, v44, v45, v46, v47])), (h1, .inl (cI, 2, .inl (fun _ => 0)))] := hD
  subst hw_539
  refine lv_if_ne (tgt := 10) hx hb dX12_sort_5 (by decide) (fun c_540 => ?_) (fun c_540 => ?_)
  · skip
    exact absurd rfl c_540
  · skip
    refine lv_iconst (v := (-1)) hx hb dX12_sort_8 (by decide) ?_
    have hP9 := hP.sub (ws' := [(h0, .inr (11, [v0, v1, v2, v3, v4, v5, v6, v7, v8, v9, v10, v11, v12, v13, v14, v15, v16, .ref h1, v17, v18, .int 0, v19, v20, v21, v22, v23, v24, v25, v26, v27, v28, v29, v30, v31, v32, v33, v34, v35, v36, v37, v38, v39, v40, v41, v42, v43, v44, v45, v46, v47])), (h1, .inl (cI, 2, .inl (fun _ => 0)))]) [0, 1] rfl
    have hD9 := hD.sub (ws' := [(h0, .inr (11, [v0, v1, v2, v3, v4, v5, v6, v7, v8, v9, v10, v11, v12, v13, v14, v15, v16, .ref h1, v17, v18, .int 0, v19, v20, v21, v22, v23, v24, v25, v26, v27, v28, v29, v30, v31, v32, v33, v34, v35, v36, v37, v38, v39, v40, v41, v42, v43, v44, v45, v46, v47])), (h1, .inl (cI, 2, .inl (fun _ => 0)))]) [0, 1] (by decide) rfl
    exact W.iret (v := (-1)) hx hb hr (fun t ht hW => ⟨⟨(-1), (), rfl, rfl, by rw [ht]; exact hP9, hD9⟩, hS.F ht⟩) hS.2.2 dX12_sort_9
def o_X12_sort_k1 : List Cond := [.methodLink RX12 159 yX12_isColumn, .instanceMethod yX12_isColumn, .selects RX12 yX12_isColumn yX12_isColumn, .initialized RX12]
def u_X12_sort_k1 : List Cond := .code yX12_sort cX12_sort 6 (some .int) :: (o_X12_sort_k1 ++ (u_X12_isColumn ++ ([] : List Cond)))
theorem gs_X12_sort_k1__X12_isColumn : GoodIn u_X12_sort_k1 u_X12_isColumn := goodIn_sub (fun w h => List.mem_cons_of_mem _ (List.mem_append_right _ (List.mem_append_left _ h))) good_X12_isColumn
set_option maxRecDepth 20000 in
theorem good_X12_sort_k1 : u_X12_sort_k1.all goodWord = true := by decide +kernel
set_option maxRecDepth 20000 in
theorem in_X12_sort_k1 : ∀ w ∈ u_X12_sort_k1, w ∈ lw_tbl := ma_cons inc_X12_sort (ma_app (ma_pos o_X12_sort_k1 [910, 912, 39, 76] (by decide +kernel)) (ma_app in_X12_isColumn ma_nil))
set_option maxHeartbeats 4000000 in
set_option maxRecDepth 100000 in
theorem c_X12_sort_k1 (l : Launch) (D : va_G) (cI cJ cZ cB : ClassId) (sz : Nat) (h0 : Nat) (h1 : Nat) (v0 : Value) (v1 : Value) (v2 : Value) (v3 : Value) (v4 : Value) (v5 : Value) (v6 : Value) (v7 : Value) (v8 : Value) (v9 : Value) (v10 : Value) (v11 : Value) (v12 : Value) (v13 : Value) (v14 : Value) (v15 : Value) (v16 : Value) (v17 : Value) (v18 : Value) (v19 : Value) (v20 : Value) (v21 : Value) (v22 : Value) (v23 : Value) (v24 : Value) (v25 : Value) (v26 : Value) (v27 : Value) (v28 : Value) (v29 : Value) (v30 : Value) (v31 : Value) (v32 : Value) (v33 : Value) (v34 : Value) (v35 : Value) (v36 : Value) (v37 : Value) (v38 : Value) (v39 : Value) (v40 : Value) (v41 : Value) (v42 : Value) (v43 : Value) (v44 : Value) (v45 : Value) (v46 : Value) (v47 : Value) (p1 : Int32) : Met l yX12_sort u_X12_sort_k1 ({ frames := 1, cells := 0, slots := 0, locals := 21 }) (va_Pc [.ref h0, .int p1, .int 1] (kPre D cI cJ cZ cB [(h0, .inr (11, [v0, v1, v2, v3, v4, v5, v6, v7, v8, v9, v10, v11, v12, v13, v14, v15, v16, .ref h1, v17, v18, .int 0, v19, v20, v21, v22, v23, v24, v25, v26, v27, v28, v29, v30, v31, v32, v33, v34, v35, v36, v37, v38, v39, v40, v41, v42, v43, v44, v45, v46, v47])), (h1, .inl (cI, 2, .inl (fun _ => 0)))] sz)) (va_Qi (fun (r : Int32) (_ : Unit) => r = (-1)) (kB D (fun (u : Unit) => [(h0, .inr (11, [v0, v1, v2, v3, v4, v5, v6, v7, v8, v9, v10, v11, v12, v13, v14, v15, v16, .ref h1, v17, v18, .int 0, v19, v20, v21, v22, v23, v24, v25, v26, v27, v28, v29, v30, v31, v32, v33, v34, v35, v36, v37, v38, v39, v40, v41, v42, v43, v44, v45, v46, v47])), (h1, .inl (cI, 2, .inl (fun _ => 0)))]) (va_A [(h0, .inr (11, [v0, v1, v2, v3, v4, v5, v6, v7, v8, v9, v10, v11, v12, v13, v14, v15, v16, .ref h1, v17, v18, .int 0, v19, v20, v21, v22, v23, v24, v25, v26, v27, v28, v29, v30, v31, v32, v33, v34, v35, v36, v37, v38, v39, v40, v41, v42, v43, v44, v45, v46, v47])), (h1, .inl (cI, 2, .inl (fun _ => 0)))] sz)) (va_A [(h0, .inr (11, [v0, v1, v2, v3, v4, v5, v6, v7, v8, v9, v10, v11, v12, v13, v14, v15, v16, .ref h1, v17, v18, .int 0, v19, v20, v21, v22, v23, v24, v25, v26, v27, v28, v29, v30, v31, v32, v33, v34, v35, v36, v37, v38, v39, v40, v41, v42, v43, v44, v45, v46, v47])), (h1, .inl (cI, 2, .inl (fun _ => 0)))] sz)) 0 0 (va_A [(h0, .inr (11, [v0, v1, v2, v3, v4, v5, v6, v7, v8, v9, v10, v11, v12, v13, v14, v15, v16, .ref h1, v17, v18, .int 0, v19, v20, v21, v22, v23, v24, v25, v26, v27, v28, v29, v30, v31, v32, v33, v34, v35, v36, v37, v38, v39, v40, v41, v42, v43, v44, v45, v46, v47])), (h1, .inl (cI, 2, .inl (fun _ => 0)))] sz) := by
  refine Met.ofW (cc := cX12_sort) (maxL := 6) (ret := (some .int)) (by decide) rfl ?_
  intro p e s m args below meth c s₁ B hml hv
  obtain ⟨rfl, hsz, hP, hK, hN, hD0⟩ := hv
  have hx := B.exec
  have hb := B.bytes
  have hr := B.returns
  have hts := atoms_spec (ws := u_X12_sort_k1) B.pre
  have hown : s.vm.findClass RX12 = some m.cls := findClass_of_methodNamed B.named
  have hlocks := B.notSynchronized
  subst hsz
  have hD := hD0.self (sz := s.heap.size)
  generalize hAe : va_A [(h0, .inr (11, [v0, v1, v2, v3, v4, v5, v6, v7, v8, v9, v10, v11, v12, v13, v14, v15, v16, .ref h1, v17, v18, .int 0, v19, v20, v21, v22, v23, v24, v25, v26, v27, v28, v29, v30, v31, v32, v33, v34, v35, v36, v37, v38, v39, v40, v41, v42, v43, v44, v45, v46, v47])), (h1, .inl (cI, 2, .inl (fun _ => 0)))] s.heap.size = A at hD ⊢
  have hA : ∀ q : Nat, s.heap.size ≤ q → A q := fun q h => by rw [← hAe]; exact Or.inr h
  have hS : va_S A s.heap s.heap [] := va_S.rf
  have hP : va_P D vwCl [(h0, .inr (11, [v0, v1, v2, v3, v4, v5, v6, v7, v8, v9, v10, v11, v12, v13, v14, v15, v16, .ref h1, v17, v18, .int 0, v19, v20, v21, v22, v23, v24, v25, v26, v27, v28, v29, v30, v31, v32, v33, v34, v35, v36, v37, v38, v39, v40, v41, v42, v43, v44, v45, v46, v47])), (h1, .inl (cI, 2, .inl (fun _ => 0)))] s.heap := hP
  have hl := lv_entry ([.ref h0, .int p1, .int 1]) (n := 6) (Nat.le_of_ble_eq_true rfl)
  rw [lg_entry_eq]
  generalize (lg_sl ([.ref h0, .int p1, .int 1]) ++ List.replicate (6 - (lg_sl ([.ref h0, .int p1, .int 1])).length) Slot.unset).toArray = ls at hl ⊢
  have hl : lv_has ls 6 [(0, .ref h0), (1, .int p1), (2, .int 1)] := hl
  obtain ⟨H, hHe⟩ : ∃ H, s.heap = H := ⟨_, rfl⟩
  have hP : va_P D vwCl [(h0, .inr (11, [v0, v1, v2, v3, v4, v5, v6, v7, v8, v9, v10, v11, v12, v13, v14, v15, v16, .ref h1, v17, v18, .int 0, v19, v20, v21, v22, v23, v24, v25, v26, v27, v28, v29, v30, v31, v32, v33, v34, v35, v36, v37, v38, v39, v40, v41, v42, v43, v44, v45, v46, v47])), (h1, .inl (cI, 2, .inl (fun _ => 0)))] H := by rw [← hHe]; exact hP
  have hS : va_S A s.heap H [] := by rw [← hHe]; exact hS
  refine kn_heap hHe ?_
  refine lv_aload_n hx hb dX12_sort_0 rfl (lv_at hl 0 rfl) ?_
  refine lv_iload_n hx hb dX12_sort_1 rfl (lv_at hl 1 rfl) ?_
  have hPc := hP.sub (ws' := [(h0, .inr (11, [v0, v1, v2, v3, v4, v5, v6, v7, v8, v9, v10, v11, v12, v13, v14, v15, v16, .ref h1, v17, v18, .int 0, v19, v20, v21, v22, v23, v24, v25, v26, v27, v28, v29, v30, v31, v32, v33, v34, v35, v36, v37, v38, v39, v40, v41, v42, v43, v44, v45, v46, v47])), (h1, .inl (cI, 2, .inl (fun _ => 0)))]) [0, 1] rfl
  have hDc := hD.sub (ws' := [(h0, .inr (11, [v0, v1, v2, v3, v4, v5, v6, v7, v8, v9, v10, v11, v12, v13, v14, v15, v16, .ref h1, v17, v18, .int 0, v19, v20, v21, v22, v23, v24, v25, v26, v27, v28, v29, v30, v31, v32, v33, v34, v35, v36, v37, v38, v39, v40, v41, v42, v43, v44, v45, v46, v47])), (h1, .inl (cI, 2, .inl (fun _ => 0)))]) [0, 1] (by decide) rfl
  refine kn_calli (wr := []) (cells' := 0) (slots' := 0) (va_runV (As := [.int p1]) (rest := []) ⟨hx, hb, hml, hown, hts⟩ (c_X12_isColumn l D cI cJ cZ cB H.size h0 h1 v0 v1 v2 v3 v4 v5 v6 v7 v8 v9 v10 v11 v12 v13 v14 v15 v16 v17 v18 v19 v20 v21 v22 v23 v24 v25 v26 v27 v28 v29 v30 v31 v32 v33 v34 v35 v36 v37 v38 v39 v40 v41 v42 v43 v44 v45 v46 v47 p1) (cwV 1 hts (goodIn_app (goodIn_of _ (by decide +kernel)) gs_X12_sort_k1__X12_isColumn) rfl rfl rfl (by decide +kernel) ⟨(Nat.le_of_ble_eq_true rfl), (Nat.le_of_ble_eq_true rfl)⟩) (kp_V 0 11 rfl rfl hPc hK hN hDc) rfl rfl hl.1 rfl (lv_room (Nat.le_of_ble_eq_true rfl)) dX12_sort_2 ⟨(Nat.le_of_ble_eq_true rfl), (Nat.le_of_ble_eq_true rfl)⟩) hS hA hP hD [0, 1] [] rfl rfl (by decide) (by decide) (Nat.le_of_ble_eq_true rfl) (Nat.le_of_ble_eq_true rfl) (fun r_544 u H locs hw_545 hP hD hS => ?_)
  have hP : va_P D vwCl [(h0, .inr (11, [v0, v1, v2, v3, v4, v5, v6, v7, v8, v9, v10, v11, v12, v13, v14, v15, v16, .ref h1, v17, v18, .int 0, v19, v20, v21, v22, v23, v24, v25, v26, v27, v28, v29, v30, v31, v32, v33, v34, v35, v36, v37, v38, v39, v40, v41, v42, v43, v44, v45, v46, v47])), (h1, .inl (cI, 2, .inl (fun _ => 0)))] H := hP
  have hD : va_D A [(h0, .inr (11, [v0, v1, v2, v3, v4, v5, v6, v7, v8, v9, v10, v11, v12, v13, v14, v15, v16, .ref h1, v17, v18, .int 0, v19, v20, v21, v22, v23, v24, v25, v26, v27, v28, v29, v30, v31, v32, v33, v34, v35, v36, v37, v38, v39, v40, v41, v42, v43, v44, v45, v46, v47])), (h1, .inl (cI, 2, .inl (fun _ => 0)))] := hD
  subst hw_545
  refine lv_if_ne (tgt := 10) hx hb dX12_sort_5 (by decide) (fun c_546 => ?_) (fun c_546 => ?_)
  · skip
    exact absurd rfl c_546
  · skip
    refine lv_iconst (v := (-1)) hx hb dX12_sort_8 (by decide) ?_
    have hP9 := hP.sub (ws' := [(h0, .inr (11, [v0, v1, v2, v3, v4, v5, v6, v7, v8, v9, v10, v11, v12, v13, v14, v15, v16, .ref h1, v17, v18, .int 0, v19, v20, v21, v22, v23, v24, v25, v26, v27, v28, v29, v30, v31, v32, v33, v34, v35, v36, v37, v38, v39, v40, v41, v42, v43, v44, v45, v46, v47])), (h1, .inl (cI, 2, .inl (fun _ => 0)))]) [0, 1] rfl
    have hD9 := hD.sub (ws' := [(h0, .inr (11, [v0, v1, v2, v3, v4, v5, v6, v7, v8, v9, v10, v11, v12, v13, v14, v15, v16, .ref h1, v17, v18, .int 0, v19, v20, v21, v22, v23, v24, v25, v26, v27, v28, v29, v30, v31, v32, v33, v34, v35, v36, v37, v38, v39, v40, v41, v42, v43, v44, v45, v46, v47])), (h1, .inl (cI, 2, .inl (fun _ => 0)))]) [0, 1] (by decide) rfl
    exact W.iret (v := (-1)) hx hb hr (fun t ht hW => ⟨⟨(-1), (), rfl, rfl, by rw [ht]; exact hP9, hD9⟩, hS.F ht⟩) hS.2.2 dX12_sort_9
def o_X11_sort_k1 : List Cond := [.fieldLink RX11 28 "EarTable" "grid" "LEarTable$Grid;", .methodLink RX11 144 yX1_hasColumn, .instanceMethod yX1_hasColumn, .selects RX1 yX1_hasColumn yX1_hasColumn, .initialized RX1]
def u_X11_sort_k1 : List Cond := .code yX11_sort cX11_sort 3 (some .int) :: (o_X11_sort_k1 ++ (u_X1_hasColumn ++ (wsX110 ++ ([] : List Cond))))
theorem gs_X11_sort_k1__X1_hasColumn : GoodIn u_X11_sort_k1 u_X1_hasColumn := goodIn_sub (fun w h => List.mem_cons_of_mem _ (List.mem_append_right _ (List.mem_append_left _ h))) good_X1_hasColumn
theorem inw_X11_sort_k1_X11 : ∀ w ∈ wsX110, w ∈ u_X11_sort_k1 := fun w h => List.mem_cons_of_mem _ (List.mem_append_right _ (List.mem_append_right _ (List.mem_append_left _ h)))
set_option maxRecDepth 20000 in
theorem good_X11_sort_k1 : u_X11_sort_k1.all goodWord = true := by decide +kernel
set_option maxRecDepth 20000 in
theorem in_X11_sort_k1 : ∀ w ∈ u_X11_sort_k1, w ∈ lw_tbl := ma_cons inc_X11_sort (ma_app (ma_pos o_X11_sort_k1 [386, 581, 582, 583, 68] (by decide +kernel)) (ma_app in_X1_hasColumn (ma_app inb_X11 ma_nil)))
set_option maxHeartbeats 4000000 in
set_option maxRecDepth 100000 in
theorem c_X11_sort_k1 (l : Launch) (D : va_G) (cI cJ cZ cB : ClassId) (sz : Nat) (h0 : Nat) (h1 : Nat) (v0 : Value) (v1 : Value) (v2 : Value) (v3 : Value) (v4 : Value) (v5 : Value) (v6 : Value) (v7 : Value) (v8 : Value) (v9 : Value) (v10 : Value) (v11 : Value) (v12 : Value) (v13 : Value) (v14 : Value) (v15 : Value) (v16 : Value) (v17 : Value) (v18 : Value) (p1 : Int32) : Met l yX11_sort u_X11_sort_k1 ({ frames := 1, cells := 0, slots := 0, locals := 21 }) (va_Pc [.ref h0, .int p1, .int 1] (kPre D cI cJ cZ cB [(h0, .inr (10, [v0, v1, .ref h1, v2, v3, v4, v5, v6, v7, v8, v9, v10, v11])), (h1, .inr (1, [v12, v13, v14, v15, v16, .int 0, v17, v18]))] sz)) (va_Qi (fun (r : Int32) (_ : Unit) => r = (-1)) (kB D (fun (u : Unit) => [(h0, .inr (10, [v0, v1, .ref h1, v2, v3, v4, v5, v6, v7, v8, v9, v10, v11])), (h1, .inr (1, [v12, v13, v14, v15, v16, .int 0, v17, v18]))]) (va_A [(h0, .inr (10, [v0, v1, .ref h1, v2, v3, v4, v5, v6, v7, v8, v9, v10, v11])), (h1, .inr (1, [v12, v13, v14, v15, v16, .int 0, v17, v18]))] sz)) (va_A [(h0, .inr (10, [v0, v1, .ref h1, v2, v3, v4, v5, v6, v7, v8, v9, v10, v11])), (h1, .inr (1, [v12, v13, v14, v15, v16, .int 0, v17, v18]))] sz)) 0 0 (va_A [(h0, .inr (10, [v0, v1, .ref h1, v2, v3, v4, v5, v6, v7, v8, v9, v10, v11])), (h1, .inr (1, [v12, v13, v14, v15, v16, .int 0, v17, v18]))] sz) := by
  refine Met.ofW (cc := cX11_sort) (maxL := 3) (ret := (some .int)) (by decide) rfl ?_
  intro p e s m args below meth c s₁ B hml hv
  obtain ⟨rfl, hsz, hP, hK, hN, hD0⟩ := hv
  have hx := B.exec
  have hb := B.bytes
  have hr := B.returns
  have hts := atoms_spec (ws := u_X11_sort_k1) B.pre
  have hown : s.vm.findClass RX11 = some m.cls := findClass_of_methodNamed B.named
  have hlocks := B.notSynchronized
  subst hsz
  have hD := hD0.self (sz := s.heap.size)
  generalize hAe : va_A [(h0, .inr (10, [v0, v1, .ref h1, v2, v3, v4, v5, v6, v7, v8, v9, v10, v11])), (h1, .inr (1, [v12, v13, v14, v15, v16, .int 0, v17, v18]))] s.heap.size = A at hD ⊢
  have hA : ∀ q : Nat, s.heap.size ≤ q → A q := fun q h => by rw [← hAe]; exact Or.inr h
  have hS : va_S A s.heap s.heap [] := va_S.rf
  have hP : va_P D vwCl [(h0, .inr (10, [v0, v1, .ref h1, v2, v3, v4, v5, v6, v7, v8, v9, v10, v11])), (h1, .inr (1, [v12, v13, v14, v15, v16, .int 0, v17, v18]))] s.heap := hP
  have hl := lv_entry ([.ref h0, .int p1, .int 1]) (n := 3) (Nat.le_of_ble_eq_true rfl)
  rw [lg_entry_eq]
  generalize (lg_sl ([.ref h0, .int p1, .int 1]) ++ List.replicate (3 - (lg_sl ([.ref h0, .int p1, .int 1])).length) Slot.unset).toArray = ls at hl ⊢
  have hl : lv_has ls 3 [(0, .ref h0), (1, .int p1), (2, .int 1)] := hl
  obtain ⟨H, hHe⟩ : ∃ H, s.heap = H := ⟨_, rfl⟩
  have hP : va_P D vwCl [(h0, .inr (10, [v0, v1, .ref h1, v2, v3, v4, v5, v6, v7, v8, v9, v10, v11])), (h1, .inr (1, [v12, v13, v14, v15, v16, .int 0, v17, v18]))] H := by rw [← hHe]; exact hP
  have hS : va_S A s.heap H [] := by rw [← hHe]; exact hS
  refine kn_heap hHe ?_
  refine lv_aload_n hx hb dX11_sort_0 rfl (lv_at hl 0 rfl) ?_
  refine va_get (D := D) (ci := 10) (v := .ref h1) (C := RX11) (T := TX11) (N := 13) hx hb hts inw_X11_sort_k1_X11 hown hK hP 0 rfl rfl 2 (by decide) (hts (.fieldLink RX11 28 "EarTable" "grid" "LEarTable$Grid;") (by decide +kernel)) (fun _ h9 => h9) rfl dX11_sort_1 ?_
  refine lv_iload_n hx hb dX11_sort_4 rfl (lv_at hl 1 rfl) ?_
  have hPc := hP.sub (ws' := [(h1, .inr (1, [v12, v13, v14, v15, v16, .int 0, v17, v18]))]) [1] rfl
  have hDc := hD.sub (ws' := [(h1, .inr (1, [v12, v13, v14, v15, v16, .int 0, v17, v18]))]) [1] (by decide) rfl
  refine kn_calli (wr := [(h0, .inr (10, [v0, v1, .ref h1, v2, v3, v4, v5, v6, v7, v8, v9, v10, v11]))]) (cells' := 0) (slots' := 0) (va_runV (As := [.int p1]) (rest := []) ⟨hx, hb, hml, hown, hts⟩ (c_X1_hasColumn l D cI cJ cZ cB H.size h1 v12 v13 v14 v15 v16 v17 v18 p1) (cwV 1 hts (goodIn_app (goodIn_of _ (by decide +kernel)) gs_X11_sort_k1__X1_hasColumn) rfl rfl rfl (by decide +kernel) ⟨(Nat.le_of_ble_eq_true rfl), (Nat.le_of_ble_eq_true rfl)⟩) (kp_V 0 1 rfl rfl hPc hK hN hDc) rfl rfl hl.1 rfl (lv_room (Nat.le_of_ble_eq_true rfl)) dX11_sort_5 ⟨(Nat.le_of_ble_eq_true rfl), (Nat.le_of_ble_eq_true rfl)⟩) hS hA hP hD [1] [0] rfl rfl (by decide) (by decide) (Nat.le_of_ble_eq_true rfl) (Nat.le_of_ble_eq_true rfl) (fun r_550 u H locs hw_551 hP hD hS => ?_)
  have hP : va_P D vwCl [(h0, .inr (10, [v0, v1, .ref h1, v2, v3, v4, v5, v6, v7, v8, v9, v10, v11])), (h1, .inr (1, [v12, v13, v14, v15, v16, .int 0, v17, v18]))] H := hP
  have hD : va_D A [(h0, .inr (10, [v0, v1, .ref h1, v2, v3, v4, v5, v6, v7, v8, v9, v10, v11])), (h1, .inr (1, [v12, v13, v14, v15, v16, .int 0, v17, v18]))] := hD
  subst hw_551
  refine lv_if_ne (tgt := 13) hx hb dX11_sort_8 (by decide) (fun c_552 => ?_) (fun c_552 => ?_)
  · skip
    exact absurd rfl c_552
  · skip
    refine lv_iconst (v := (-1)) hx hb dX11_sort_11 (by decide) ?_
    have hP9 := hP.sub (ws' := [(h0, .inr (10, [v0, v1, .ref h1, v2, v3, v4, v5, v6, v7, v8, v9, v10, v11])), (h1, .inr (1, [v12, v13, v14, v15, v16, .int 0, v17, v18]))]) [0, 1] rfl
    have hD9 := hD.sub (ws' := [(h0, .inr (10, [v0, v1, .ref h1, v2, v3, v4, v5, v6, v7, v8, v9, v10, v11])), (h1, .inr (1, [v12, v13, v14, v15, v16, .int 0, v17, v18]))]) [0, 1] (by decide) rfl
    exact W.iret (v := (-1)) hx hb hr (fun t ht hW => ⟨⟨(-1), (), rfl, rfl, by rw [ht]; exact hP9, hD9⟩, hS.F ht⟩) hS.2.2 dX11_sort_12
