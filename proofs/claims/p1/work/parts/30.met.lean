def o_X12_greatest : List Cond := [.methodLink RX12 159 yX12_isColumn, .instanceMethod yX12_isColumn, .selects RX12 yX12_isColumn yX12_isColumn, .initialized RX12]
def u_X12_greatest : List Cond := .code yX12_greatest cX12_greatest 4 (some .int) :: (o_X12_greatest ++ (u_X12_isColumn ++ ([] : List Cond)))
theorem gs_X12_greatest__X12_isColumn : GoodIn u_X12_greatest u_X12_isColumn := goodIn_sub (fun w h => List.mem_cons_of_mem _ (List.mem_append_right _ (List.mem_append_left _ h))) good_X12_isColumn
set_option maxRecDepth 20000 in
theorem good_X12_greatest : u_X12_greatest.all goodWord = true := by decide +kernel
set_option maxRecDepth 20000 in
theorem in_X12_greatest : ∀ w ∈ u_X12_greatest, w ∈ lw_tbl := ma_cons inc_X12_greatest (ma_app (ma_pos o_X12_greatest [910, 912, 39, 76] (by decide +kernel)) (ma_app in_X12_isColumn ma_nil))
set_option maxHeartbeats 4000000 in
set_option maxRecDepth 100000 in
theorem c_X12_greatest (l : Launch) (D : va_G) (cI cJ cZ cB : ClassId) (sz : Nat) (h0 : Nat) (h1 : Nat) (v0 : Value) (v1 : Value) (v2 : Value) (v3 : Value) (v4 : Value) (v5 : Value) (v6 : Value) (v7 : Value) (v8 : Value) (v9 : Value) (v10 : Value) (v11 : Value) (v12 : Value) (v13 : Value) (v14 : Value) (v15 : Value) (v16 : Value) (v17 : Value) (v18 : Value) (v19 : Value) (v20 : Value) (v21 : Value) (v22 : Value) (v23 : Value) (v24 : Value) (v25 : Value) (v26 : Value) (v27 : Value) (v28 : Value) (v29 : Value) (v30 : Value) (v31 : Value) (v32 : Value) (v33 : Value) (v34 : Value) (v35 : Value) (v36 : Value) (v37 : Value) (v38 : Value) (v39 : Value) (v40 : Value) (v41 : Value) (v42 : Value) (v43 : Value) (v44 : Value) (v45 : Value) (v46 : Value) (v47 : Value) (p1 : Int32) : Met l yX12_greatest u_X12_greatest ({ frames := 1, cells := 0, slots := 0, locals := 21 }) (va_Pc [.ref h0, .int p1] (kPre D cI cJ cZ cB [(h0, .inr (11, [v0, v1, v2, v3, v4, v5, v6, v7, v8, v9, v10, v11, v12, v13, v14, v15, v16, .ref h1, v17, v18, .int 0, v19, v20, v21, v22, v23, v24, v25, v26, v27, v28, v29, v30, v31, v32, v33, v34, v35, v36, v37, v38, v39, v40, v41, v42, v43, v44, v45, v46, v47])), (h1, .inl (cI, 2, .inl (fun _ => 0)))] sz)) (va_Qi (fun (r : Int32) (_ : Unit) => r = (-1)) (kB D (fun (u : Unit) => [(h0, .inr (11, [v0, v1, v2, v3, v4, v5, v6, v7, v8, v9, v10, v11, v12, v13, v14, v15, v16, .ref h1, v17, v18, .int 0, v19, v20, v21, v22, v23, v24, v25, v26, v27, v28, v29, v30, v31, v32, v33, v34, v35, v36, v37, v38, v39, v40, v41, v42, v43, v44, v45, v46, v47])), (h1, .inl (cI, 2, .inl (fun _ => 0)))]) (va_A [(h0, .inr (11, [v0, v1, v2, v3, v4, v5, v6, v7, v8, v9, v10, v11, v12, v13, v14, v15, v16, .ref h1, v17, v18, .int 0, v19, v20, v21, v22, v23, v24, v25, v26, v27, v28, v29, v30, v31, v32, v33, v34, v35, v36, v37, v38, v39, v40, v41, v42, v43, v44, v45, v46, v47])), (h1, .inl (cI, 2, .inl (fun _ => 0)))] sz)) (va_A [(h0, .inr (11, [v0, v1, v2, v3, v4, v5, v6, v7, v8, v9, v10, v11, v12, v13, v14, v15, v16, .ref h1, v17, v18, .int 0, v19, v20, v21, v22, v23, v24, v25, v26, v27, v28, v29, v30, v31, v32, v33, v34, v35, v36, v37, v38, v39, v40, v41, v42, v43, v44, v45, v46, v47])), (h1, .inl (cI, 2, .inl (fun _ => 0)))] sz)) 0 0 (va_A [(h0, .inr (11, [v0, v1, v2, v3, v4, v5, v6, v7, v8, v9, v10, v11, v12, v13, v14, v15, v16, .ref h1, v17, v18, .int 0, v19, v20, v21, v22, v23, v24, v25, v26, v27, v28, v29, v30, v31, v32, v33, v34, v35, v36, v37, v38, v39, v40, v41, v42, v43, v44, v45, v46, v47])), (h1, .inl (cI, 2, .inl (fun _ => 0)))] sz) := by
  refine Met.ofW (cc := cX12_greatest) (maxL := 4) (ret := (some .int)) (by decide) rfl ?_
  intro p e s m args below meth c s₁ B hml hv
  obtain ⟨rfl, hsz, hP, hK, hN, hD0⟩ := hv
  have hx := B.exec
  have hb := B.bytes
  have hr := B.returns
  have hts := atoms_spec (ws := u_X12_greatest) B.pre
  have hown : s.vm.findClass RX12 = some m.cls := findClass_of_methodNamed B.named
  have hlocks := B.notSynchronized
  subst hsz
  have hD := hD0.self (sz := s.heap.size)
  generalize hAe : va_A [(h0, .inr (11, [v0, v1, v2, v3, v4, v5, v6, v7, v8, v9, v10, v11, v12, v13, v14, v15, v16, .ref h1, v17, v18, .int 0, v19, v20, v21, v22, v23, v24, v25, v26, v27, v28, v29, v30, v31, v32, v33, v34, v35, v36, v37, v38, v39, v40, v41, v42, v43, v44, v45, v46, v47])), (h1, .inl (cI, 2, .inl (fun _ => 0)))] s.heap.size = A at hD ⊢
  have hA : ∀ q : Nat, s.heap.size ≤ q → A q := fun q h => by rw [← hAe]; exact Or.inr h
  have hS : va_S A s.heap s.heap [] := va_S.rf
  have hP : va_P D vwCl [(h0, .inr (11, [v0, v1, v2, v3, v4, v5, v6, v7, v8, v9, v10, v11, v12, v13, v14, v15, v16, .ref h1, v17, v18, .int 0, v19, v20, v21, v22, v23, v24, v25, v26, v27, v28, v29, v30, v31, v32, v33, v34, v35, v36, v37, v38, v39, v40, v41, v42, v43, v44, v45, v46, v47])), (h1, .inl (cI, 2, .inl (fun _ => 0)))] s.heap := hP
  have hl := lv_entry ([.ref h0, .int p1]) (n := 4) (Nat.le_of_ble_eq_true rfl)
  rw [lg_entry_eq]
  generalize (lg_sl ([.ref h0, .int p1]) ++ List.replicate (4 - (lg_sl ([.ref h0, .int p1])).length) Slot.unset).toArray = ls at hl ⊢
  have hl : lv_has ls 4 [(0, .ref h0), (1, .int p1)] := hl
  obtain ⟨H, hHe⟩ : ∃ H, s.heap = H := ⟨_, rfl⟩
  have hP : va_P D vwCl [(h0, .inr (11, [v0, v1, v2, v3, v4, v5, v6, v7, v8, v9, v10, v11, v12, v13, v14, v15, v16, .ref h1, v17, v18, .int 0, v19, v20, v21, v22, v23, v24, v25, v26, v27, v28, v29, v30, v31, v32, v33, v34, v35, v36, v37, v38, v39, v40, v41, v42, v43, v44, v45, v46, v47])), (h1, .inl (cI, 2, .inl (fun _ => 0)))] H := by rw [← hHe]; exact hP
  have hS : va_S A s.heap H [] := by rw [← hHe]; exact hS
  refine kn_heap hHe ?_
  refine lv_aload_n hx hb dX12_greatest_0 rfl (lv_at hl 0 rfl) ?_
  refine lv_iload_n hx hb dX12_greatest_1 rfl (lv_at hl 1 rfl) ?_
  have hPc := hP.sub (ws' := [(h0, .inr (11, [v0, v1, v2, v3, v4, v5, v6, v7, v8, v9, v10, v11, v12, v13, v14, v15, v16, .ref h1, v17, v18, .int 0, v19, v20, v21, v22, v23, v24, v25, v26, v27, v28, v29, v30, v31, v32, v33, v34, v35, v36, v37, v38, v39, v40, v41, v42, v43, v44, v45, v46, v47])), (h1, .inl (cI, 2, .inl (fun _ => 0)))]) [0, 1] rfl
  have hDc := hD.sub (ws' := [(h0, .inr (11, [v0, v1, v2, v3, v4, v5, v6, v7, v8, v9, v10, v11, v12, v13, v14, v15, v16, .ref h1, v17, v18, .int 0, v19, v20, v21, v22, v23, v24, v25, v26, v27, v28, v29, v30, v31, v32, v33, v34, v35, v36, v37, v38, v39, v40, v41, v42, v43, v44, v45, v46, v47])), (h1, .inl (cI, 2, .inl (fun _ => 0)))]) [0, 1] (by decide) rfl
  refine kn_calli (wr := []) (cells' := 0) (slots' := 0) (va_runV (As := [.int p1]) (rest := []) ⟨hx, hb, hml, hown, hts⟩ (c_X12_isColumn l D cI cJ cZ cB H.size h0 h1 v0 v1 v2 v3 v4 v5 v6 v7 v8 v9 v10 v11 v12 v13 v14 v15 v16 v17 v18 v19 v20 v21 v22 v23 v24 v25 v26 v27 v28 v29 v30 v31 v32 v33 v34 v35 v36 v37 v38 v39 v40 v41 v42 v43 v44 v45 v46 v47 p1) (cwV 1 hts (goodIn_app (goodIn_of _ (by decide +kernel)) gs_X12_greatest__X12_isColumn) rfl rfl rfl (by decide +kernel) ⟨(Nat.le_of_ble_eq_true rfl), (Nat.le_of_ble_eq_true rfl)⟩) (kp_V 0 11 rfl rfl hPc hK hN hDc) rfl rfl hl.1 rfl (lv_room (Nat.le_of_ble_eq_true rfl)) dX12_greatest_2 ⟨(Nat.le_of_ble_eq_true rfl), (Nat.le_of_ble_eq_true rfl)⟩) hS hA hP hD [0, 1] [] rfl rfl (by decide) (by decide) (Nat.le_of_ble_eq_true rfl) (Nat.le_of_ble_eq_true rfl) (fun r_755 u H locs hw_756 hP hD hS => ?_)
  have hP : va_P D vwCl [(h0, .inr (11, [v0, v1, v2, v3, v4, v5, v6, v7, v8, v9, v10, v11, v12, v13, v14, v15, v16, .ref h1, v17, v18, .int 0, v19, v20, v21, v22, v23, v24, v25, v26, v27, v28, v29, v30, v31, v32, v33, v34, v35, v36, v37, v38, v39, v40, v41, v42, v43, v44, v45, v46, v47])), (h1, .inl (cI, 2, .inl (fun _ => 0)))] H := hP
  have hD : va_D A [(h0, .inr (11, [v0, v1, v2, v3, v4, v5, v6, v7, v8, v9, v10, v11, v12, v13, v14, v15, v16, .ref h1, v17, v18, .int 0, v19, v20, v21, v22, v23, v24, v25, v26, v27, v28, v29, v30, v31, v32, v33, v34, v35, v36, v37, v38, v39, v40, v41, v42, v43, v44, v45, v46, v47])), (h1, .inl (cI, 2, .inl (fun _ => 0)))] := hD
  subst hw_756
  refine lv_if_ne (tgt := 10) hx hb dX12_greatest_5 (by decide) (fun c_757 => ?_) (fun c_757 => ?_)
  · skip
    exact absurd rfl c_757
  · skip
    refine lv_iconst (v := (-1)) hx hb dX12_greatest_8 (by decide) ?_
    have hP9 := hP.sub (ws' := [(h0, .inr (11, [v0, v1, v2, v3, v4, v5, v6, v7, v8, v9, v10, v11, v12, v13, v14, v15, v16, .ref h1, v17, v18, .int 0, v19, v20, v21, v22, v23, v24, v25, v26, v27, v28, v29, v30, v31, v32, v33, v34, v35, v36, v37, v38, v39, v40, v41, v42, v43, v44, v45, v46, v47])), (h1, .inl (cI, 2, .inl (fun _ => 0)))]) [0, 1] rfl
    have hD9 := hD.sub (ws' := [(h0, .inr (11, [v0, v1, v2, v3, v4, v5, v6, v7, v8, v9, v10, v11, v12, v13, v14, v15, v16, .ref h1, v17, v18, .int 0, v19, v20, v21, v22, v23, v24, v25, v26, v27, v28, v29, v30, v31, v32, v33, v34, v35, v36, v37, v38, v39, v40, v41, v42, v43, v44, v45, v46, v47])), (h1, .inl (cI, 2, .inl (fun _ => 0)))]) [0, 1] (by decide) rfl
    exact W.iret (v := (-1)) hx hb hr (fun t ht hW => ⟨⟨(-1), (), rfl, rfl, by rw [ht]; exact hP9, hD9⟩, hS.F ht⟩) hS.2.2 dX12_greatest_9
def o_X11_compare : List Cond := [.fieldLink RX11 28 "EarTable" "grid" "LEarTable$Grid;", .methodLink RX11 144 yX1_hasColumn, .instanceMethod yX1_hasColumn, .selects RX1 yX1_hasColumn yX1_hasColumn, .initialized RX1]
def u_X11_compare : List Cond := .code yX11_compare cX11_compare 4 (some .int) :: (o_X11_compare ++ (u_X1_hasColumn ++ (wsX110 ++ ([] : List Cond))))
theorem gs_X11_compare__X1_hasColumn : GoodIn u_X11_compare u_X1_hasColumn := goodIn_sub (fun w h => List.mem_cons_of_mem _ (List.mem_append_right _ (List.mem_append_left _ h))) good_X1_hasColumn
theorem inw_X11_compare_X11 : ∀ w ∈ wsX110, w ∈ u_X11_compare := fun w h => List.mem_cons_of_mem _ (List.mem_append_right _ (List.mem_append_right _ (List.mem_append_left _ h)))
set_option maxRecDepth 20000 in
theorem good_X11_compare : u_X11_compare.all goodWord = true := by decide +kernel
set_option maxRecDepth 20000 in
theorem in_X11_compare : ∀ w ∈ u_X11_compare, w ∈ lw_tbl := ma_cons inc_X11_compare (ma_app (ma_pos o_X11_compare [386, 581, 582, 583, 68] (by decide +kernel)) (ma_app in_X1_hasColumn (ma_app inb_X11 ma_nil)))
set_option maxHeartbeats 4000000 in
set_option maxRecDepth 100000 in
theorem c_X11_compare (l : Launch) (D : va_G) (cI cJ cZ cB : ClassId) (sz : Nat) (h0 : Nat) (h1 : Nat) (v0 : Value) (v1 : Value) (v2 : Value) (v3 : Value) (v4 : Value) (v5 : Value) (v6 : Value) (v7 : Value) (v8 : Value) (v9 : Value) (v10 : Value) (v11 : Value) (v12 : Value) (v13 : Value) (v14 : Value) (v15 : Value) (v16 : Value) (v17 : Value) (v18 : Value) (p1 : Int32) (p2 : Int32) (p3 : Int32) : Met l yX11_compare u_X11_compare ({ frames := 1, cells := 0, slots := 0, locals := 21 }) (va_Pc [.ref h0, .int p1, .int p2, .int p3] (kPre D cI cJ cZ cB [(h0, .inr (10, [v0, v1, .ref h1, v2, v3, v4, v5, v6, v7, v8, v9, v10, v11])), (h1, .inr (1, [v12, v13, v14, v15, v16, .int 0, v17, v18]))] sz)) (va_Qi (fun (r : Int32) (_ : Unit) => r = (-1)) (kB D (fun (u : Unit) => [(h0, .inr (10, [v0, v1, .ref h1, v2, v3, v4, v5, v6, v7, v8, v9, v10, v11])), (h1, .inr (1, [v12, v13, v14, v15, v16, .int 0, v17, v18]))]) (va_A [(h0, .inr (10, [v0, v1, .ref h1, v2, v3, v4, v5, v6, v7, v8, v9, v10, v11])), (h1, .inr (1, [v12, v13, v14, v15, v16, .int 0, v17, v18]))] sz)) (va_A [(h0, .inr (10, [v0, v1, .ref h1, v2, v3, v4, v5, v6, v7, v8, v9, v10, v11])), (h1, .inr (1, [v12, v13, v14, v15, v16, .int 0, v17, v18]))] sz)) 0 0 (va_A [(h0, .inr (10, [v0, v1, .ref h1, v2, v3, v4, v5, v6, v7, v8, v9, v10, v11])), (h1, .inr (1, [v12, v13, v14, v15, v16, .int 0, v17, v18]))] sz) := by
  refine Met.ofW (cc := cX11_compare) (maxL := 4) (ret := (some .int)) (by decide) rfl ?_
  intro p e s m args below meth c s₁ B hml hv
  obtain ⟨rfl, hsz, hP, hK, hN, hD0⟩ := hv
  have hx := B.exec
  have hb := B.bytes
  have hr := B.returns
  have hts := atoms_spec (ws := u_X11_compare) B.pre
  have hown : s.vm.findClass RX11 = some m.cls := findClass_of_methodNamed B.named
  have hlocks := B.notSynchronized
  subst hsz
  have hD := hD0.self (sz := s.heap.size)
  generalize hAe : va_A [(h0, .inr (10, [v0, v1, .ref h1, v2, v3, v4, v5, v6, v7, v8, v9, v10, v11])), (h1, .inr (1, [v12, v13, v14, v15, v16, .int 0, v17, v18]))] s.heap.size = A at hD ⊢
  have hA : ∀ q : Nat, s.heap.size ≤ q → A q := fun q h => by rw [← hAe]; exact Or.inr h
  have hS : va_S A s.heap s.heap [] := va_S.rf
  have hP : va_P D vwCl [(h0, .inr (10, [v0, v1, .ref h1, v2, v3, v4, v5, v6, v7, v8, v9, v10, v11])), (h1, .inr (1, [v12, v13, v14, v15, v16, .int 0, v17, v18]))] s.heap := hP
  have hl := lv_entry ([.ref h0, .int p1, .int p2, .int p3]) (n := 4) (Nat.le_of_ble_eq_true rfl)
  rw [lg_entry_eq]
  generalize (lg_sl ([.ref h0, .int p1, .int p2, .int p3]) ++ List.replicate (4 - (lg_sl ([.ref h0, .int p1, .int p2, .int p3])).length) Slot.unset).toArray = ls at hl ⊢
  have hl : lv_has ls 4 [(0, .ref h0), (1, .int p1), (2, .int p2), (3, .int p3)] := hl
  obtain ⟨H, hHe⟩ : ∃ H, s.heap = H := ⟨_, rfl⟩
  have hP : va_P D vwCl [(h0, .inr (10, [v0, v1, .ref h1, v2, v3, v4, v5, v6, v7, v8, v9, v10, v11])), (h1, .inr (1, [v12, v13, v14, v15, v16, .int 0, v17, v18]))] H := by rw [← hHe]; exact hP
  have hS : va_S A s.heap H [] := by rw [← hHe]; exact hS
  refine kn_heap hHe ?_
  refine lv_aload_n hx hb dX11_compare_0 rfl (lv_at hl 0 rfl) ?_
  refine va_get (D := D) (ci := 10) (v := .ref h1) (C := RX11) (T := TX11) (N := 13) hx hb hts inw_X11_compare_X11 hown hK hP 0 rfl rfl 2 (by decide) (hts (.fieldLink RX11 28 "EarTable" "grid" "LEarTable$Grid;") (by decide +kernel)) (fun _ h9 => h9) rfl dX11_compare_1 ?_
  refine lv_iload_n hx hb dX11_compare_4 rfl (lv_at hl 1 rfl) ?_
  have hPc := hP.sub (ws' := [(h1, .inr (1, [v12, v13, v14, v15, v16, .int 0, v17, v18]))]) [1] rfl
  have hDc := hD.sub (ws' := [(h1, .inr (1, [v12, v13, v14, v15, v16, .int 0, v17, v18]))]) [1] (by decide) rfl
  refine kn_calli (wr := [(h0, .inr (10, [v0, v1, .ref h1, v2, v3, v4, v5, v6, v7, v8, v9, v10, v11]))]) (cells' := 0) (slots' := 0) (va_runV (As := [.int p1]) (rest := []) ⟨hx, hb, hml, hown, hts⟩ (c_X1_hasColumn l D cI cJ cZ cB H.size h1 v12 v13 v14 v15 v16 v17 v18 p1) (cwV 1 hts (goodIn_app (goodIn_of _ (by decide +kernel)) gs_X11_compare__X1_hasColumn) rfl rfl rfl (by decide +kernel) ⟨(Nat.le_of_ble_eq_true rfl), (Nat.le_of_ble_eq_true rfl)⟩) (kp_V 0 1 rfl rfl hPc hK hN hDc) rfl rfl hl.1 rfl (lv_room (Nat.le_of_ble_eq_true rfl)) dX11_compare_5 ⟨(Nat.le_of_ble_eq_true rfl), (Nat.le_of_ble_eq_true rfl)⟩) hS hA hP hD [1] [0] rfl rfl (by decide) (by decide) (Nat.le_of_ble_eq_true rfl) (Nat.le_of_ble_eq_true rfl) (fun r_761 u H locs hw_762 hP hD hS => ?_)
  have hP : va_P D vwCl [(h0, .inr (10, [v0, v1, .ref h1, v2, v3, v4, v5, v6, v7, v8, v9, v10, v11])), (h1, .inr (1, [v12, v13, v14, v15, v16, .int 0, v17, v18]))] H := hP
  have hD : va_D A [(h0, .inr (10, [v0, v1, .ref h1, v2, v3, v4, v5, v6, v7, v8, v9, v10, v11])), (h1, .inr (1, [v12, v13, v14, v15, v16, .int 0, v17, v18]))] := hD
  subst hw_762
  refine lv_if_eq (tgt := 31) hx hb dX11_compare_8 (by decide) (fun c_763 => ?_) (fun c_763 => ?_)
  · skip
    refine lv_iconst (v := (-1)) hx hb dX11_compare_31 (by decide) ?_
    have hP9 := hP.sub (ws' := [(h0, .inr (10, [v0, v1, .ref h1, v2, v3, v4, v5, v6, v7, v8, v9, v10, v11])), (h1, .inr (1, [v12, v13, v14, v15, v16, .int 0, v17, v18]))]) [0, 1] rfl
    have hD9 := hD.sub (ws' := [(h0, .inr (10, [v0, v1, .ref h1, v2, v3, v4, v5, v6, v7, v8, v9, v10, v11])), (h1, .inr (1, [v12, v13, v14, v15, v16, .int 0, v17, v18]))]) [0, 1] (by decide) rfl
    exact W.iret (v := (-1)) hx hb hr (fun t ht hW => ⟨⟨(-1), (), rfl, rfl, by rw [ht]; exact hP9, hD9⟩, hS.F ht⟩) hS.2.2 dX11_compare_32
  · skip
    exact absurd rfl c_763
def o_X12_compare : List Cond := [.methodLink RX12 159 yX12_isColumn, .instanceMethod yX12_isColumn, .selects RX12 yX12_isColumn yX12_isColumn, .initialized RX12]
def u_X12_compare : List Cond := .code yX12_compare cX12_compare 8 (some .int) :: (o_X12_compare ++ (u_X12_isColumn ++ ([] : List Cond)))
theorem gs_X12_compare__X12_isColumn : GoodIn u_X12_compare u_X12_isColumn := goodIn_sub (fun w h => List.mem_cons_of_mem _ (List.mem_append_right _ (List.mem_append_left _ h))) good_X12_isColumn
set_option maxRecDepth 20000 in
theorem good_X12_compare : u_X12_compare.all goodWord = true := by decide +kernel
set_option maxRecDepth 20000 in
theorem in_X12_compare : ∀ w ∈ u_X12_compare, w ∈ lw_tbl := ma_cons inc_X12_compare (ma_app (ma_pos o_X12_compare [910, 912, 39, 76] (by decide +kernel)) (ma_app in_X12_isColumn ma_nil))
set_option maxHeartbeats 4000000 in
set_option maxRecDepth 100000 in
theorem c_X12_compare (l : Launch) (D : va_G) (cI cJ cZ cB : ClassId) (sz : Nat) (h0 : Nat) (h1 : Nat) (v0 : Value) (v1 : Value) (v2 : Value) (v3 : Value) (v4 : Value) (v5 : Value) (v6 : Value) (v7 : Value) (v8 : Value) (v9 : Value) (v10 : Value) (v11 : Value) (v12 : Value) (v13 : Value) (v14 : Value) (v15 : Value) (v16 : Value) (v17 : Value) (v18 : Value) (v19 : Value) (v20 : Value) (v21 : Value) (v22 : Value) (v23 : Value) (v24 : Value) (v25 : Value) (v26 : Value) (v27 : Value) (v28 : Value) (v29 : Value) (v30 : Value) (v31 : Value) (v32 : Value) (v33 : Value) (v34 : Value) (v35 : Value) (v36 : Value) (v37 : Value) (v38 : Value) (v39 : Value) (v40 : Value) (v41 : Value) (v42 : Value) (v43 : Value) (v44 : Value) (v45 : Value) (v46 : Value) (v47 : Value) (p1 : Int32) (p2 : Int32) (p3 : Int32) : Met l yX12_compare u_X12_compare ({ frames := 1, cells := 0, slots := 0, locals := 21 }) (va_Pc [.ref h0, .int p1, .int p2, .int p3] (kPre D cI cJ cZ cB [(h0, .inr (11, [v0, v1, v2, v3, v4, v5, v6, v7, v8, v9, v10, v11, v12, v13, v14, v15, v16, .ref h1, v17, v18, .int 0, v19, v20, v21, v22, v23, v24, v25, v26, v27, v28, v29, v30, v31, v32, v33, v34, v35, v36, v37, v38, v39, v40, v41, v42, v43, v44, v45, v46, v47])), (h1, .inl (cI, 2, .inl (fun _ => 0)))] sz)) (va_Qi (fun (r : Int32) (_ : Unit) => r = (-1)) (kB D (fun (u : Unit) => [(h0, .inr (11, [v0, v1, v2, v3, v4, v5, v6, v7, v8, v9, v10, v11, v12, v13, v14, v15, v16, .ref h1, v17, v18, .int 0, v19, v20, v21, v22, v23, v24, v25, v26, v27, v28, v29, v30, v31, v32, v33, v34, v35, v36, v37, v38, v39, v40, v41, v42, v43, v44, v45, v46, v47])), (h1, .inl (cI, 2, .inl (fun _ => 0)))]) (va_A [(h0, .inr (11, [v0, v1, v2, v3, v4, v5, v6, v7, v8, v9, v10, v11, v12, v13, v14, v15, v16, .ref h1, v17, v18, .int 0, v19, v20, v21, v22, v23, v24, v25, v26, v27, v28, v29, v30, v31, v32, v33, v34, v35, v36, v37, v38, v39, v40, v41, v42, v43, v44, v45, v46, v47])), (h1, .inl (cI, 2, .inl (fun _ => 0)))] sz)) (va_A [(h0, .inr (11, [v0, v1, v2, v3, v4, v5, v6, v7, v8, v9, v10, v11, v12, v13, v14, v15, v16, .ref h1, v17, v18, .int 0, v19, v20, v21, v22, v23, v24, v25, v26, v27, v28, v29, v30, v31, v32, v33, v34, v35, v36, v37, v38, v39, v40, v41, v42, v43, v44, v45, v46, v47])), (h1, .inl (cI, 2, .inl (fun _ => 0)))] sz)) 0 0 (va_A [(h0, .inr (11, [v0, v1, v2, v3, v4, v5, v6, v7, v8, v9, v10, v11, v12, v13, v14, v15, v16, .ref h1, v17, v18, .int 0, v19, v20, v21, v22, v23, v24, v25, v26, v27, v28, v29, v30, v31, v32, v33, v34, v35, v36, v37, v38, v39, v40, v41, v42, v43, v44, v45, v46, v47])), (h1, .inl (cI, 2, .inl (fun _ => 0)))] sz) := by
  refine Met.ofW (cc := cX12_compare) (maxL := 8) (ret := (some .int)) (by decide) rfl ?_
  intro p e s m args below meth c s₁ B hml hv
  obtain ⟨rfl, hsz, hP, hK, hN, hD0⟩ := hv
  have hx := B.exec
  have hb := B.bytes
  have hr := B.returns
  have hts := atoms_spec (ws := u_X12_compare) B.pre
  have hown : s.vm.findClass RX12 = some m.cls := findClass_of_methodNamed B.named
  have hlocks := B.notSynchronized
  subst hsz
  have hD := hD0.self (sz := s.heap.size)
  generalize hAe : va_A [(h0, .inr (11, [v0, v1, v2, v3, v4, v5, v6, v7, v8, v9, v10, v11, v12, v13, v14, v15, v16, .ref h1, v17, v18, .int 0, v19, v20, v21, v22, v23, v24, v25, v26, v27, v28, v29, v30, v31, v32, v33, v34, v35, v36, v37, v38, v39, v40, v41, v42, v43, v44, v45, v46, v47])), (h1, .inl (cI, 2, .inl (fun _ => 0)))] s.heap.size = A at hD ⊢
  have hA : ∀ q : Nat, s.heap.size ≤ q → A q := fun q h => by rw [← hAe]; exact Or.inr h
  have hS : va_S A s.heap s.heap [] := va_S.rf
  have hP : va_P D vwCl [(h0, .inr (11, [v0, v1, v2, v3, v4, v5, v6, v7, v8, v9, v10, v11, v12, v13, v14, v15, v16, .ref h1, v17, v18, .int 0, v19, v20, v21, v22, v23, v24, v25, v26, v27, v28, v29, v30, v31, v32, v33, v34, v35, v36, v37, v38, v39, v40, v41, v42, v43, v44, v45, v46, v47])), (h1, .inl (cI, 2, .inl (fun _ => 0)))] s.heap := hP
  have hl := lv_entry ([.ref h0, .int p1, .int p2, .int p3]) (n := 8) (Nat.le_of_ble_eq_true rfl)
  rw [lg_entry_eq]
  generalize (lg_sl ([.ref h0, .int p1, .int p2, .int p3]) ++ List.replicate (8 - (lg_sl ([.ref h0, .int p1, .int p2, .int p3])).length) Slot.unset).toArray = ls at hl ⊢
  have hl : lv_has ls 8 [(0, .ref h0), (1, .int p1), (2, .int p2), (3, .int p3)] := hl
  obtain ⟨H, hHe⟩ : ∃ H, s.heap = H := ⟨_, rfl⟩
  have hP : va_P D vwCl [(h0, .inr (11, [v0, v1, v2, v3, v4, v5, v6, v7, v8, v9, v10, v11, v12, v13, v14, v15, v16, .ref h1, v17, v18, .int 0, v19, v20, v21, v22, v23, v24, v25, v26, v27, v28, v29, v30, v31, v32, v33, v34, v35, v36, v37, v38, v39, v40, v41, v42, v43, v44, v45, v46, v47])), (h1, .inl (cI, 2, .inl (fun _ => 0)))] H := by rw [← hHe]; exact hP
  have hS : va_S A s.heap H [] := by rw [← hHe]; exact hS
  refine kn_heap hHe ?_
  refine lv_aload_n hx hb dX12_compare_0 rfl (lv_at hl 0 rfl) ?_
  refine lv_iload_n hx hb dX12_compare_1 rfl (lv_at hl 1 rfl) ?_
  have hPc := hP.sub (ws' := [(h0, .inr (11, [v0, v1, v2, v3, v4, v5, v6, v7, v8, v9, v10, v11, v12, v13, v14, v15, v16, .ref h1, v17, v18, .int 0, v19, v20, v21, v22, v23, v24, v25, v26, v27, v28, v29, v30, v31, v32, v33, v34, v35, v36, v37, v38, v39, v40, v41, v42, v43, v44, v45, v46, v47])), (h1, .inl (cI, 2, .inl (fun _ => 0)))]) [0, 1] rfl
  have hDc := hD.sub (ws' := [(h0, .inr (11, [v0, v1, v2, v3, v4, v5, v6, v7, v8, v9, v10, v11, v12, v13, v14, v15, v16, .ref h1, v17, v18, .int 0, v19, v20, v21, v22, v23, v24, v25, v26, v27, v28, v29, v30, v31, v32, v33, v34, v35, v36, v37, v38, v39, v40, v41, v42, v43, v44, v45, v46, v47])), (h1, .inl (cI, 2, .inl (fun _ => 0)))]) [0, 1] (by decide) rfl
  refine kn_calli (wr := []) (cells' := 0) (slots' := 0) (va_runV (As := [.int p1]) (rest := []) ⟨hx, hb, hml, hown, hts⟩ (c_X12_isColumn l D cI cJ cZ cB H.size h0 h1 v0 v1 v2 v3 v4 v5 v6 v7 v8 v9 v10 v11 v12 v13 v14 v15 v16 v17 v18 v19 v20 v21 v22 v23 v24 v25 v26 v27 v28 v29 v30 v31 v32 v33 v34 v35 v36 v37 v38 v39 v40 v41 v42 v43 v44 v45 v46 v47 p1) (cwV 1 hts (goodIn_app (goodIn_of _ (by decide +kernel)) gs_X12_compare__X12_isColumn) rfl rfl rfl (by decide +kernel) ⟨(Nat.le_of_ble_eq_true rfl), (Nat.le_of_ble_eq_true rfl)⟩) (kp_V 0 11 rfl rfl hPc hK hN hDc) rfl rfl hl.1 rfl (lv_room (Nat.le_of_ble_eq_true rfl)) dX12_compare_2 ⟨(Nat.le_of_ble_eq_true rfl), (Nat.le_of_ble_eq_true rfl)⟩) hS hA hP hD [0, 1] [] rfl rfl (by decide) (by decide) (Nat.le_of_ble_eq_true rfl) (Nat.le_of_ble_eq_true rfl) (fun r_766 u H locs hw_767 hP hD hS => ?_)
  have hP : va_P D vwCl [(h0, .inr (11, [v0, v1, v2, v3, v4, v5, v6, v7, v8, v9, v10, v11, v12, v13, v14, v15, v16, .ref h1, v17, v18, .int 0, v19, v20, v21, v22, v23, v24, v25, v26, v27, v28, v29, v30, v31, v32, v33, v34, v35, v36, v37, v38, v39, v40, v41, v42, v43, v44, v45, v46, v47])), (h1, .inl (cI, 2, .inl (fun _ => 0)))] H := hP
  have hD : va_D A [(h0, .inr (11, [v0, v1, v2, v3, v4, v5, v6, v7, v8, v9, v10, v11, v12, v13, v14, v15, v16, .ref h1, v17, v18, .int 0, v19, v20, v21, v22, v23, v24, v25, v26, v27, v28, v29, v30, v31, v32, v33, v34, v35, v36, v37, v38, v39, v40, v41, v42, v43, v44, v45, v46, v47])), (h1, .inl (cI, 2, .inl (fun _ => 0)))] := hD
  subst hw_767
  refine lv_if_eq (tgt := 25) hx hb dX12_compare_5 (by decide) (fun c_768 => ?_) (fun c_768 => ?_)
  · skip
    refine lv_iconst (v := (-1)) hx hb dX12_compare_25 (by decide) ?_
    have hP9 := hP.sub (ws' := [(h0, .inr (11, [v0, v1, v2, v3, v4, v5, v6, v7, v8, v9, v10, v11, v12, v13, v14, v15, v16, .ref h1, v17, v18, .int 0, v19, v20, v21, v22, v23, v24, v25, v26, v27, v28, v29, v30, v31, v32, v33, v34, v35, v36, v37, v38, v39, v40, v41, v42, v43, v44, v45, v46, v47])), (h1, .inl (cI, 2, .inl (fun _ => 0)))]) [0, 1] rfl
    have hD9 := hD.sub (ws' := [(h0, .inr (11, [v0, v1, v2, v3, v4, v5, v6, v7, v8, v9, v10, v11, v12, v13, v14, v15, v16, .ref h1, v17, v18, .int 0, v19, v20, v21, v22, v23, v24, v25, v26, v27, v28, v29, v30, v31, v32, v33, v34, v35, v36, v37, v38, v39, v40, v41, v42, v43, v44, v45, v46, v47])), (h1, .inl (cI, 2, .inl (fun _ => 0)))]) [0, 1] (by decide) rfl
    exact W.iret (v := (-1)) hx hb hr (fun t ht hW => ⟨⟨(-1), (), rfl, rfl, by rw [ht]; exact hP9, hD9⟩, hS.F ht⟩) hS.2.2 dX12_compare_26
  · skip
    exact absurd rfl c_768
def o_X11_shape : List Cond := [.fieldLink RX11 28 "EarTable" "grid" "LEarTable$Grid;", .methodLink RX11 144 yX1_hasColumn, .instanceMethod yX1_hasColumn, .selects RX1 yX1_hasColumn yX1_hasColumn, .initialized RX1]
def u_X11_shape : List Cond := .code yX11_shape cX11_shape 2 (some .int) :: (o_X11_shape ++ (u_X1_hasColumn ++ (wsX110 ++ ([] : List Cond))))
theorem gs_X11_shape__X1_hasColumn : GoodIn u_X11_shape u_X1_hasColumn := goodIn_sub (fun w h => List.mem_cons_of_mem _ (List.mem_append_right _ (List.mem_append_left _ h))) good_X1_hasColumn
theorem inw_X11_shape_X11 : ∀ w ∈ wsX110, w ∈ u_X11_shape := fun w h => List.mem_cons_of_mem _ (List.mem_append_right _ (List.mem_append_right _ (List.mem_append_left _ h)))
set_option maxRecDepth 20000 in
theorem good_X11_shape : u_X11_shape.all goodWord = true := by decide +kernel
set_option maxRecDepth 20000 in
theorem in_X11_shape : ∀ w ∈ u_X11_shape, w ∈ lw_tbl := ma_cons inc_X11_shape (ma_app (ma_pos o_X11_shape [386, 581, 582, 583, 68] (by decide +kernel)) (ma_app in_X1_hasColumn (ma_app inb_X11 ma_nil)))
set_option maxHeartbeats 4000000 in
set_option maxRecDepth 100000 in
theorem c_X11_shape (l : Launch) (D : va_G) (cI cJ cZ cB : ClassId) (sz : Nat) (h0 : Nat) (h1 : Nat) (v0 : Value) (v1 : Value) (v2 : Value) (v3 : Value) (v4 : Value) (v5 : Value) (v6 : Value) (v7 : Value) (v8 : Value) (v9 : Value) (v10 : Value) (v11 : Value) (v12 : Value) (v13 : Value) (v14 : Value) (v15 : Value) (v16 : Value) (v17 : Value) (v18 : Value) (p1 : Int32) : Met l yX11_shape u_X11_shape ({ frames := 1, cells := 0, slots := 0, locals := 21 }) (va_Pc [.ref h0, .int p1] (kPre D cI cJ cZ cB [(h0, .inr (10, [v0, v1, .ref h1, v2, v3, v4, v5, v6, v7, v8, v9, v10, v11])), (h1, .inr (1, [v12, v13, v14, v15, v16, .int 0, v17, v18]))] sz)) (va_Qi (fun (r : Int32) (_ : Unit) => r = (-1)) (kB D (fun (u : Unit) => [(h0, .inr (10, [v0, v1, .ref h1, v2, v3, v4, v5, v6, v7, v8, v9, v10, v11])), (h1, .inr (1, [v12, v13, v14, v15, v16, .int 0, v17, v18]))]) (va_A [(h0, .inr (10, [v0, v1, .ref h1, v2, v3, v4, v5, v6, v7, v8, v9, v10, v11])), (h1, .inr (1, [v12, v13, v14, v15, v16, .int 0, v17, v18]))] sz)) (va_A [(h0, .inr (10, [v0, v1, .ref h1, v2, v3, v4, v5, v6, v7, v8, v9, v10, v11])), (h1, .inr (1, [v12, v13, v14, v15, v16, .int 0, v17, v18]))] sz)) 0 0 (va_A [(h0, .inr (10, [v0, v1, .ref h1, v2, v3, v4, v5, v6, v7, v8, v9, v10, v11])), (h1, .inr (1, [v12, v13, v14, v15, v16, .int 0, v17, v18]))] sz) := by
  refine Met.ofW (cc := cX11_shape) (maxL := 2) (ret := (some .int)) (by decide) rfl ?_
  intro p e s m args below meth c s₁ B hml hv
  obtain ⟨rfl, hsz, hP, hK, hN, hD0⟩ := hv
  have hx := B.exec
  have hb := B.bytes
  have hr := B.returns
  have hts := atoms_spec (ws := u_X11_shape) B.pre
  have hown : s.vm.findClass RX11 = some m.cls := findClass_of_methodNamed B.named
  have hlocks := B.notSynchronized
  subst hsz
  have hD := hD0.self (sz := s.heap.size)
  generalize hAe : va_A [(h0, .inr (10, [v0, v1, .ref h1, v2, v3, v4, v5, v6, v7, v8, v9, v10, v11])), (h1, .inr (1, [v12, v13, v14, v15, v16, .int 0, v17, v18]))] s.heap.size = A at hD ⊢
  have hA : ∀ q : Nat, s.heap.size ≤ q → A q := fun q h => by rw [← hAe]; exact Or.inr h
  have hS : va_S A s.heap s.heap [] := va_S.rf
  have hP : va_P D vwCl [(h0, .inr (10, [v0, v1, .ref h1, v2, v3, v4, v5, v6, v7, v8, v9, v10, v11])), (h1, .inr (1, [v12, v13, v14, v15, v16, .int 0, v17, v18]))] s.heap := hP
  have hl := lv_entry ([.ref h0, .int p1]) (n := 2) (Nat.le_of_ble_eq_true rfl)
  rw [lg_entry_eq]
  generalize (lg_sl ([.ref h0, .int p1]) ++ List.replicate (2 - (lg_sl ([.ref h0, .int p1])).length) Slot.unset).toArray = ls at hl ⊢
  have hl : lv_has ls 2 [(0, .ref h0), (1, .int p1)] := hl
  obtain ⟨H, hHe⟩ : ∃ H, s.heap = H := ⟨_, rfl⟩
  have hP : va_P D vwCl [(h0, .inr (10, [v0, v1, .ref h1, v2, v3, v4, v5, v6, v7, v8, v9, v10, v11])), (h1, .inr (1, [v12, v13, v14, v15, v16, .int 0, v17, v18]))] H := by rw [← hHe]; exact hP
  have hS : va_S A s.heap H [] := by rw [← hHe]; exact hS
  refine kn_heap hHe ?_
  refine lv_aload_n hx hb dX11_shape_0 rfl (lv_at hl 0 rfl) ?_
  refine va_get (D := D) (ci := 10) (v := .ref h1) (C := RX11) (T := TX11) (N := 13) hx hb hts inw_X11_shape_X11 hown hK hP 0 rfl rfl 2 (by decide) (hts (.fieldLink RX11 28 "EarTable" "grid" "LEarTable$Grid;") (by decide +kernel)) (fun _ h9 => h9) rfl dX11_shape_1 ?_
  refine lv_iload_n hx hb dX11_shape_4 rfl (lv_at hl 1 rfl) ?_
  have hPc := hP.sub (ws' := [(h1, .inr (1, [v12, v13, v14, v15, v16, .int 0, v17, v18]))]) [1] rfl
  have hDc := hD.sub (ws' := [(h1, .inr (1, [v12, v13, v14, v15, v16, .int 0, v17, v18]))]) [1] (by decide) rfl
  refine kn_calli (wr := [(h0, .inr (10, [v0, v1, .ref h1, v2, v3, v4, v5, v6, v7, v8, v9, v10, v11]))]) (cells' := 0) (slots' := 0) (va_runV (As := [.int p1]) (rest := []) ⟨hx, hb, hml, hown, hts⟩ (c_X1_hasColumn l D cI cJ cZ cB H.size h1 v12 v13 v14 v15 v16 v17 v18 p1) (cwV 1 hts (goodIn_app (goodIn_of _ (by decide +kernel)) gs_X11_shape__X1_hasColumn) rfl rfl rfl (by decide +kernel) ⟨(Nat.le_of_ble_eq_true rfl), (Nat.le_of_ble_eq_true rfl)⟩) (kp_V 0 1 rfl rfl hPc hK hN hDc) rfl rfl hl.1 rfl (lv_room (Nat.le_of_ble_eq_true rfl)) dX11_shape_5 ⟨(Nat.le_of_ble_eq_true rfl), (Nat.le_of_ble_eq_true rfl)⟩) hS hA hP hD [1] [0] rfl rfl (by decide) (by decide) (Nat.le_of_ble_eq_true rfl) (Nat.le_of_ble_eq_true rfl) (fun r_772 u H locs hw_773 hP hD hS => ?_)
  have hP : va_P D vwCl [(h0, .inr (10, [v0, v1, .ref h1, v2, v3, v4, v5, v6, v7, v8, v9, v10, v11])), (h1, .inr (1, [v12, v13, v14, v15, v16, .int 0, v17, v18]))] H := hP
  have hD : va_D A [(h0, .inr (10, [v0, v1, .ref h1, v2, v3, v4, v5, v6, v7, v8, v9, v10, v11])), (h1, .inr (1, [v12, v13, v14, v15, v16, .int 0, v17, v18]))] := hD
  subst hw_773
  refine lv_if_eq (tgt := 22) hx hb dX11_shape_8 (by decide) (fun c_774 => ?_) (fun c_774 => ?_)
  · skip
    refine lv_iconst (v := (-1)) hx hb dX11_shape_22 (by decide) ?_
    have hP9 := hP.sub (ws' := [(h0, .inr (10, [v0, v1, .ref h1, v2, v3, v4, v5, v6, v7, v8, v9, v10, v11])), (h1, .inr (1, [v12, v13, v14, v15, v16, .int 0, v17, v18]))]) [0, 1] rfl
    have hD9 := hD.sub (ws' := [(h0, .inr (10, [v0, v1, .ref h1, v2, v3, v4, v5, v6, v7, v8, v9, v10, v11])), (h1, .inr (1, [v12, v13, v14, v15, v16, .int 0, v17, v18]))]) [0, 1] (by decide) rfl
    exact W.iret (v := (-1)) hx hb hr (fun t ht hW => ⟨⟨(-1), (), rfl, rfl, by rw [ht]; exact hP9, hD9⟩, hS.F ht⟩) hS.2.2 dX11_shape_23
  · skip
    exact absurd rfl c_774
def o_X12_shape : List Cond := [.methodLink RX12 159 yX12_isColumn, .instanceMethod yX12_isColumn, .selects RX12 yX12_isColumn yX12_isColumn, .initialized RX12]
def u_X12_shape : List Cond := .code yX12_shape cX12_shape 10 (some .int) :: (o_X12_shape ++ (u_X12_isColumn ++ ([] : List Cond)))
theorem gs_X12_shape__X12_isColumn : GoodIn u_X12_shape u_X12_isColumn := goodIn_sub (fun w h => List.mem_cons_of_mem _ (List.mem_append_right _ (List.mem_append_left _ h))) good_X12_isColumn
set_option maxRecDepth 20000 in
theorem good_X12_shape : u_X12_shape.all goodWord = true := by decide +kernel
set_option maxRecDepth 20000 in
theorem in_X12_shape : ∀ w ∈ u_X12_shape, w ∈ lw_tbl := ma_cons inc_X12_shape (ma_app (ma_pos o_X12_shape [910, 912, 39, 76] (by decide +kernel)) (ma_app in_X12_isColumn ma_nil))
set_option maxHeartbeats 4000000 in
set_option maxRecDepth 100000 in
theorem c_X12_shape (l : Launch) (D : va_G) (cI cJ cZ cB : ClassId) (sz : Nat) (h0 : Nat) (h1 : Nat) (v0 : Value) (v1 : Value) (v2 : Value) (v3 : Value) (v4 : Value) (v5 : Value) (v6 : Value) (v7 : Value) (v8 : Value) (v9 : Value) (v10 : Value) (v11 : Value) (v12 : Value) (v13 : Value) (v14 : Value) (v15 : Value) (v16 : Value) (v17 : Value) (v18 : Value) (v19 : Value) (v20 : Value) (v21 : Value) (v22 : Value) (v23 : Value) (v24 : Value) (v25 : Value) (v26 : Value) (v27 : Value) (v28 : Value) (v29 : Value) (v30 : Value) (v31 : Value) (v32 : Value) (v33 : Value) (v34 : Value) (v35 : Value) (v36 : Value) (v37 : Value) (v38 : Value) (v39 : Value) (v40 : Value) (v41 : Value) (v42 : Value) (v43 : Value) (v44 : Value) (v45 : Value) (v46 : Value) (v47 : Value) (p1 : Int32) : Met l yX12_shape u_X12_shape ({ frames := 1, cells := 0, slots := 0, locals := 21 }) (va_Pc [.ref h0, .int p1] (kPre D cI cJ cZ cB [(h0, .inr (11, [v0, v1, v2, v3, v4, v5, v6, v7, v8, v9, v10, v11, v12, v13, v14, v15, v16, .ref h1, v17, v18, .int 0, v19, v20, v21, v22, v23, v24, v25, v26, v27, v28, v29, v30, v31, v32, v33, v34, v35, v36, v37, v38, v39, v40, v41, v42, v43, v44, v45, v46, v47])), (h1, .inl (cI, 2, .inl (fun _ => 0)))] sz)) (va_Qi (fun (r : Int32) (_ : Unit) => r = (-1)) (kB D (fun (u : Unit) => [(h0, .inr (11, [v0, v1, v2, v3, v4, v5, v6, v7, v8, v9, v10, v11, v12, v13, v14, v15, v16, .ref h1, v17, v18, .int 0, v19, v20, v21, v22, v23, v24, v25, v26, v27, v28, v29, v30, v31, v32, v33, v34, v35, v36, v37, v38, v39, v40, v41, v42, v43, v44, v45, v46, v47])), (h1, .inl (cI, 2, .inl (fun _ => 0)))]) (va_A [(h0, .inr (11, [v0, v1, v2, v3, v4, v5, v6, v7, v8, v9, v10, v11, v12, v13, v14, v15, v16, .ref h1, v17, v18, .int 0, v19, v20, v21, v22, v23, v24, v25, v26, v27, v28, v29, v30, v31, v32, v33, v34, v35, v36, v37, v38, v39, v40, v41, v42, v43, v44, v45, v46, v47])), (h1, .inl (cI, 2, .inl (fun _ => 0)))] sz)) (va_A [(h0, .inr (11, [v0, v1, v2, v3, v4, v5, v6, v7, v8, v9, v10, v11, v12, v13, v14, v15, v16, .ref h1, v17, v18, .int 0, v19, v20, v21, v22, v23, v24, v25, v26, v27, v28, v29, v30, v31, v32, v33, v34, v35, v36, v37, v38, v39, v40, v41, v42, v43, v44, v45, v46, v47])), (h1, .inl (cI, 2, .inl (fun _ => 0)))] sz)) 0 0 (va_A [(h0, .inr (11, [v0, v1, v2, v3, v4, v5, v6, v7, v8, v9, v10, v11, v12, v13, v14, v15, v16, .ref h1, v17, v18, .int 0, v19, v20, v21, v22, v23, v24, v25, v26, v27, v28, v29, v30, v31, v32, v33, v34, v35, v36, v37, v38, v39, v40, v41, v42, v43, v44, v45, v46, v47])), (h1, .inl (cI, 2, .inl (fun _ => 0)))] sz) := by
  refine Met.ofW (cc := cX12_shape) (maxL := 10) (ret := (some .int)) (by decide) rfl ?_
  intro p e s m args below meth c s₁ B hml hv
  obtain ⟨rfl, hsz, hP, hK, hN, hD0⟩ := hv
  have hx := B.exec
  have hb := B.bytes
  have hr := B.returns
  have hts := atoms_spec (ws := u_X12_shape) B.pre
  have hown : s.vm.findClass RX12 = some m.cls := findClass_of_methodNamed B.named
  have hlocks := B.notSynchronized
  subst hsz
  have hD := hD0.self (sz := s.heap.size)
  generalize hAe : va_A [(h0, .inr (11, [v0, v1, v2, v3, v4, v5, v6, v7, v8, v9, v10, v11, v12, v13, v14, v15, v16, .ref h1, v17, v18, .int 0, v19, v20, v21, v22, v23, v24, v25, v26, v27, v28, v29, v30, v31, v32, v33, v34, v35, v36, v37, v38, v39, v40, v41, v42, v43, v44, v45, v46, v47])), (h1, .inl (cI, 2, .inl (fun _ => 0)))] s.heap.size = A at hD ⊢
  have hA : ∀ q : Nat, s.heap.size ≤ q → A q := fun q h => by rw [← hAe]; exact Or.inr h
  have hS : va_S A s.heap s.heap [] := va_S.rf
  have hP : va_P D vwCl [(h0, .inr (11, [v0, v1, v2, v3, v4, v5, v6, v7, v8, v9, v10, v11, v12, v13, v14, v15, v16, .ref h1, v17, v18, .int 0, v19, v20, v21, v22, v23, v24, v25, v26, v27, v28, v29, v30, v31, v32, v33, v34, v35, v36, v37, v38, v39, v40, v41, v42, v43, v44, v45, v46, v47])), (h1, .inl (cI, 2, .inl (fun _ => 0)))] s.heap := hP
  have hl := lv_entry ([.ref h0, .int p1]) (n := 10) (Nat.le_of_ble_eq_true rfl)
  rw [lg_entry_eq]
  generalize (lg_sl ([.ref h0, .int p1]) ++ List.replicate (10 - (lg_sl ([.ref h0, .int p1])).length) Slot.unset).toArray = ls at hl ⊢
  have hl : lv_has ls 10 [(0, .ref h0), (1, .int p1)] := hl
  obtain ⟨H, hHe⟩ : ∃ H, s.heap = H := ⟨_, rfl⟩
  have hP : va_P D vwCl [(h0, .inr (11, [v0, v1, v2, v3, v4, v5, v6, v7, v8, v9, v10, v11, v12, v13, v14, v15, v16, .ref h1, v17, v18, .int 0, v19, v20, v21, v22, v23, v24, v25, v26, v27, v28, v29, v30, v31, v32, v33, v34, v35, v36, v37, v38, v39, v40, v41, v42, v43, v44, v45, v46, v47])), (h1, .inl (cI, 2, .inl (fun _ => 0)))] H := by rw [← hHe]; exact hP
  have hS : va_S A s.heap H [] := by rw [← hHe]; exact hS
  refine kn_heap hHe ?_
  refine lv_aload_n hx hb dX12_shape_0 rfl (lv_at hl 0 rfl) ?_
  refine lv_iload_n hx hb dX12_shape_1 rfl (lv_at hl 1 rfl) ?_
  have hPc := hP.sub (ws' := [(h0, .inr (11, [v0, v1, v2, v3, v4, v5, v6, v7, v8, v9, v10, v11, v12, v13, v14, v15, v16, .ref h1, v17, v18, .int 0, v19, v20, v21, v22, v23, v24, v25, v26, v27, v28, v29, v30, v31, v32, v33, v34, v35, v36, v37, v38, v39, v40, v41, v42, v43, v44, v45, v46, v47])), (h1, .inl (cI, 2, .inl (fun _ => 0)))]) [0, 1] rfl
  have hDc := hD.sub (ws' := [(h0, .inr (11, [v0, v1, v2, v3, v4, v5, v6, v7, v8, v9, v10, v11, v12, v13, v14, v15, v16, .ref h1, v17, v18, .int 0, v19, v20, v21, v22, v23, v24, v25, v26, v27, v28, v29, v30, v31, v32, v33, v34, v35, v36, v37, v38, v39, v40, v41, v42, v43, v44, v45, v46, v47])), (h1, .inl (cI, 2, .inl (fun _ => 0)))]) [0, 1] (by decide) rfl
  refine kn_calli (wr := []) (cells' := 0) (slots' := 0) (va_runV (As := [.int p1]) (rest := []) ⟨hx, hb, hml, hown, hts⟩ (c_X12_isColumn l D cI cJ cZ cB H.size h0 h1 v0 v1 v2 v3 v4 v5 v6 v7 v8 v9 v10 v11 v12 v13 v14 v15 v16 v17 v18 v19 v20 v21 v22 v23 v24 v25 v26 v27 v28 v29 v30 v31 v32 v33 v34 v35 v36 v37 v38 v39 v40 v41 v42 v43 v44 v45 v46 v47 p1) (cwV 1 hts (goodIn_app (goodIn_of _ (by decide +kernel)) gs_X12_shape__X12_isColumn) rfl rfl rfl (by decide +kernel) ⟨(Nat.le_of_ble_eq_true rfl), (Nat.le_of_ble_eq_true rfl)⟩) (kp_V 0 11 rfl rfl hPc hK hN hDc) rfl rfl hl.1 rfl (lv_room (Nat.le_of_ble_eq_true rfl)) dX12_shape_2 ⟨(Nat.le_of_ble_eq_true rfl), (Nat.le_of_ble_eq_true rfl)⟩) hS hA hP hD [0, 1] [] rfl rfl (by decide) (by decide) (Nat.le_of_ble_eq_true rfl) (Nat.le_of_ble_eq_true rfl) (fun r_777 u H locs hw_778 hP hD hS => ?_)
  have hP : va_P D vwCl [(h0, .inr (11, [v0, v1, v2, v3, v4, v5, v6, v7, v8, v9, v10, v11, v12, v13, v14, v15, v16, .ref h1, v17, v18, .int 0, v19, v20, v21, v22, v23, v24, v25, v26, v27, v28, v29, v30, v31, v32, v33, v34, v35, v36, v37, v38, v39, v40, v41, v42, v43, v44, v45, v46, v47])), (h1, .inl (cI, 2, .inl (fun _ => 0)))] H := hP
  have hD : va_D A [(h0, .inr (11, [v0, v1, v2, v3, v4, v5, v6, v7, v8, v9, v10, v11, v12, v13, v14, v15, v16, .ref h1, v17, v18, .int 0, v19, v20, v21, v22, v23, v24, v25, v26, v27, v28, v29, v30, v31, v32, v33, v34, v35, v36, v37, v38, v39, v40, v41, v42, v43, v44, v45, v46, v47])), (h1, .inl (cI, 2, .inl (fun _ => 0)))] := hD
  subst hw_778
  refine lv_if_ne (tgt := 10) hx hb dX12_shape_5 (by decide) (fun c_779 => ?_) (fun c_779 => ?_)
  · skip
    exact absurd rfl c_779
  · skip
    refine lv_iconst (v := (-1)) hx hb dX12_shape_8 (by decide) ?_
    have hP9 := hP.sub (ws' := [(h0, .inr (11, [v0, v1, v2, v3, v4, v5, v6, v7, v8, v9, v10, v11, v12, v13, v14, v15, v16, .ref h1, v17, v18, .int 0, v19, v20, v21, v22, v23, v24, v25, v26, v27, v28, v29, v30, v31, v32, v33, v34, v35, v36, v37, v38, v39, v40, v41, v42, v43, v44, v45, v46, v47])), (h1, .inl (cI, 2, .inl (fun _ => 0)))]) [0, 1] rfl
    have hD9 := hD.sub (ws' := [(h0, .inr (11, [v0, v1, v2, v3, v4, v5, v6, v7, v8, v9, v10, v11, v12, v13, v14, v15, v16, .ref h1, v17, v18, .int 0, v19, v20, v21, v22, v23, v24, v25, v26, v27, v28, v29, v30, v31, v32, v33, v34, v35, v36, v37, v38, v39, v40, v41, v42, v43, v44, v45, v46, v47])), (h1, .inl (cI, 2, .inl (fun _ => 0)))]) [0, 1] (by decide) rfl
    exact W.iret (v := (-1)) hx hb hr (fun t ht hW => ⟨⟨(-1), (), rfl, rfl, by rw [ht]; exact hP9, hD9⟩, hS.F ht⟩) hS.2.2 dX12_shape_9
def o_X11_about : List Cond := [.fieldLink RX11 28 "EarTable" "grid" "LEarTable$Grid;", .fieldLink RX11 37 "EarTable" "view" "LEarTable$View;", .fieldLink RX11 76 "EarTable" "changes" "LEarTable$Changes;", .fieldLink RX11 69 "EarTable" "trail" "LEarTable$Trail;", .fieldLink RX11 10 "EarTable" "tape" "LEarTable$Tape;", .fieldLink RX11 62 "EarTable" "speech" "LEarTable$Speech;"]
def u_X11_about : List Cond := .code yX11_about cX11_about 2 (some .int) :: (o_X11_about ++ (wsX110 ++ (wsX10 ++ (wsX90 ++ (wsX00 ++ (wsX80 ++ (wsX70 ++ (wsX40 ++ ([] : List Cond)))))))))
theorem inw_X11_about_X11 : ∀ w ∈ wsX110, w ∈ u_X11_about := fun w h => List.mem_cons_of_mem _ (List.mem_append_right _ (List.mem_append_left _ h))
theorem inw_X11_about_X1 : ∀ w ∈ wsX10, w ∈ u_X11_about := fun w h => List.mem_cons_of_mem _ (List.mem_append_right _ (List.mem_append_right _ (List.mem_append_left _ h)))
theorem inw_X11_about_X9 : ∀ w ∈ wsX90, w ∈ u_X11_about := fun w h => List.mem_cons_of_mem _ (List.mem_append_right _ (List.mem_append_right _ (List.mem_append_right _ (List.mem_append_left _ h))))
theorem inw_X11_about_X0 : ∀ w ∈ wsX00, w ∈ u_X11_about := fun w h => List.mem_cons_of_mem _ (List.mem_append_right _ (List.mem_append_right _ (List.mem_append_right _ (List.mem_append_right _ (List.mem_append_left _ h)))))
theorem inw_X11_about_X8 : ∀ w ∈ wsX80, w ∈ u_X11_about := fun w h => List.mem_cons_of_mem _ (List.mem_append_right _ (List.mem_append_right _ (List.mem_append_right _ (List.mem_append_right _ (List.mem_append_right _ (List.mem_append_left _ h))))))
theorem inw_X11_about_X7 : ∀ w ∈ wsX70, w ∈ u_X11_about := fun w h => List.mem_cons_of_mem _ (List.mem_append_right _ (List.mem_append_right _ (List.mem_append_right _ (List.mem_append_right _ (List.mem_append_right _ (List.mem_append_right _ (List.mem_append_left _ h)))))))
theorem inw_X11_about_X4 : ∀ w ∈ wsX40, w ∈ u_X11_about := fun w h => List.mem_cons_of_mem _ (List.mem_append_right _ (List.mem_append_right _ (List.mem_append_right _ (List.mem_append_right _ (List.mem_append_right _ (List.mem_append_right _ (List.mem_append_right _ (List.mem_append_left _ h))))))))
set_option maxRecDepth 20000 in
theorem good_X11_about : u_X11_about.all goodWord = true := by decide +kernel
set_option maxRecDepth 20000 in
theorem in_X11_about : ∀ w ∈ u_X11_about, w ∈ lw_tbl := ma_cons inc_X11_about (ma_app (ma_pos o_X11_about [386, 387, 392, 391, 384, 390] (by decide +kernel)) (ma_app inb_X11 (ma_app inb_X1 (ma_app inb_X9 (ma_app inb_X0 (ma_app inb_X8 (ma_app inb_X7 (ma_app inb_X4 ma_nil))))))))
set_option maxHeartbeats 4000000 in
set_option maxRecDepth 100000 in
theorem c_X11_about (l : Launch) (D : va_G) (cI cJ cZ cB : ClassId) (sz : Nat) (h0 : Nat) (h1 : Nat) (h2 : Nat) (h3 : Nat) (h4 : Nat) (h5 : Nat) (h6 : Nat) (v0 : Value) (v1 : Value) (v2 : Value) (v3 : Value) (v4 : Value) (v5 : Value) (v6 : Value) (v7 : Value) (v8 : Value) (v9 : Value) (v10 : Value) (v11 : Value) (v12 : Value) (v13 : Value) (v14 : Value) (v15 : Value) (v16 : Value) (v17 : Value) (v18 : Value) (v19 : Value) (v20 : Value) (v21 : Value) (v22 : Value) (v23 : Value) (v24 : Value) (v25 : Value) (v26 : Value) (v27 : Value) (v28 : Value) (v29 : Value) (v30 : Value) (p1 : Int32) : Met l yX11_about u_X11_about ({ frames := 0, cells := 0, slots := 0, locals := 0 }) (va_Pc [.ref h0, .int p1] (kPre D cI cJ cZ cB [(h0, .inr (10, [.ref h5, v0, .ref h1, .ref h2, v1, v2, .ref h6, .ref h4, .ref h3, v3, v4, v5, v6])), (h1, .inr (1, [v7, v8, v9, v10, v11, .int 0, .int 0, .int 0])), (h2, .inr (8, [v12, v13, v14, .int 0, v15])), (h3, .inr (0, [v16, v17, v18, v19, .int 0])), (h4, .inr (7, [v20, v21, .int 0, v22, v23])), (h5, .inr (6, [v24, .int 0])), (h6, .inr (3, [v25, v26, v27, v28, .int 0, v29, v30]))] sz)) (va_Qi (fun (r : Int32) (_ : Unit) => r = F_about p1) (kB D (fun (u : Unit) => [(h0, .inr (10, [.ref h5, v0, .ref h1, .ref h2, v1, v2, .ref h6, .ref h4, .ref h3, v3, v4, v5, v6])), (h1, .inr (1, [v7, v8, v9, v10, v11, .int 0, .int 0, .int 0])), (h2, .inr (8, [v12, v13, v14, .int 0, v15])), (h3, .inr (0, [v16, v17, v18, v19, .int 0])), (h4, .inr (7, [v20, v21, .int 0, v22, v23])), (h5, .inr (6, [v24, .int 0])), (h6, .inr (3, [v25, v26, v27, v28, .int 0, v29, v30]))]) (va_A [(h0, .inr (10, [.ref h5, v0, .ref h1, .ref h2, v1, v2, .ref h6, .ref h4, .ref h3, v3, v4, v5, v6])), (h1, .inr (1, [v7, v8, v9, v10, v11, .int 0, .int 0, .int 0])), (h2, .inr (8, [v12, v13, v14, .int 0, v15])), (h3, .inr (0, [v16, v17, v18, v19, .int 0])), (h4, .inr (7, [v20, v21, .int 0, v22, v23])), (h5, .inr (6, [v24, .int 0])), (h6, .inr (3, [v25, v26, v27, v28, .int 0, v29, v30]))] sz)) (va_A [(h0, .inr (10, [.ref h5, v0, .ref h1, .ref h2, v1, v2, .ref h6, .ref h4, .ref h3, v3, v4, v5, v6])), (h1, .inr (1, [v7, v8, v9, v10, v11, .int 0, .int 0, .int 0])), (h2, .inr (8, [v12, v13, v14, .int 0, v15])), (h3, .inr (0, [v16, v17, v18, v19, .int 0])), (h4, .inr (7, [v20, v21, .int 0, v22, v23])), (h5, .inr (6, [v24, .int 0])), (h6, .inr (3, [v25, v26, v27, v28, .int 0, v29, v30]))] sz)) 0 0 (va_A [(h0, .inr (10, [.ref h5, v0, .ref h1, .ref h2, v1, v2, .ref h6, .ref h4, .ref h3, v3, v4, v5, v6])), (h1, .inr (1, [v7, v8, v9, v10, v11, .int 0, .int 0, .int 0])), (h2, .inr (8, [v12, v13, v14, .int 0, v15])), (h3, .inr (0, [v16, v17, v18, v19, .int 0])), (h4, .inr (7, [v20, v21, .int 0, v22, v23])), (h5, .inr (6, [v24, .int 0])), (h6, .inr (3, [v25, v26, v27, v28, .int 0, v29, v30]))] sz) := by
  refine Met.ofW (cc := cX11_about) (maxL := 2) (ret := (some .int)) (by decide) rfl ?_
  intro p e s m args below meth c s₁ B hml hv
  obtain ⟨rfl, hsz, hP, hK, hN, hD0⟩ := hv
  have hx := B.exec
  have hb := B.bytes
  have hr := B.returns
  have hts := atoms_spec (ws := u_X11_about) B.pre
  have hown : s.vm.findClass RX11 = some m.cls := findClass_of_methodNamed B.named
  have hlocks := B.notSynchronized
  subst hsz
  have hD := hD0.self (sz := s.heap.size)
  generalize hAe : va_A [(h0, .inr (10, [.ref h5, v0, .ref h1, .ref h2, v1, v2, .ref h6, .ref h4, .ref h3, v3, v4, v5, v6])), (h1, .inr (1, [v7, v8, v9, v10, v11, .int 0, .int 0, .int 0])), (h2, .inr (8, [v12, v13, v14, .int 0, v15])), (h3, .inr (0, [v16, v17, v18, v19, .int 0])), (h4, .inr (7, [v20, v21, .int 0, v22, v23])), (h5, .inr (6, [v24, .int 0])), (h6, .inr (3, [v25, v26, v27, v28, .int 0, v29, v30]))] s.heap.size = A at hD ⊢
  have hA : ∀ q : Nat, s.heap.size ≤ q → A q := fun q h => by rw [← hAe]; exact Or.inr h
  have hS : va_S A s.heap s.heap [] := va_S.rf
  have hP : va_P D vwCl [(h0, .inr (10, [.ref h5, v0, .ref h1, .ref h2, v1, v2, .ref h6, .ref h4, .ref h3, v3, v4, v5, v6])), (h1, .inr (1, [v7, v8, v9, v10, v11, .int 0, .int 0, .int 0])), (h2, .inr (8, [v12, v13, v14, .int 0, v15])), (h3, .inr (0, [v16, v17, v18, v19, .int 0])), (h4, .inr (7, [v20, v21, .int 0, v22, v23])), (h5, .inr (6, [v24, .int 0])), (h6, .inr (3, [v25, v26, v27, v28, .int 0, v29, v30]))] s.heap := hP
  have hl := lv_entry ([.ref h0, .int p1]) (n := 2) (Nat.le_of_ble_eq_true rfl)
  rw [lg_entry_eq]
  generalize (lg_sl ([.ref h0, .int p1]) ++ List.replicate (2 - (lg_sl ([.ref h0, .int p1])).length) Slot.unset).toArray = ls at hl ⊢
  have hl : lv_has ls 2 [(0, .ref h0), (1, .int p1)] := hl
  obtain ⟨H, hHe⟩ : ∃ H, s.heap = H := ⟨_, rfl⟩
  have hP : va_P D vwCl [(h0, .inr (10, [.ref h5, v0, .ref h1, .ref h2, v1, v2, .ref h6, .ref h4, .ref h3, v3, v4, v5, v6])), (h1, .inr (1, [v7, v8, v9, v10, v11, .int 0, .int 0, .int 0])), (h2, .inr (8, [v12, v13, v14, .int 0, v15])), (h3, .inr (0, [v16, v17, v18, v19, .int 0])), (h4, .inr (7, [v20, v21, .int 0, v22, v23])), (h5, .inr (6, [v24, .int 0])), (h6, .inr (3, [v25, v26, v27, v28, .int 0, v29, v30]))] H := by rw [← hHe]; exact hP
  have hS : va_S A s.heap H [] := by rw [← hHe]; exact hS
  refine kn_heap hHe ?_
  refine lv_iload_n hx hb dX11_about_0 rfl (lv_at hl 1 rfl) ?_
  by_cases c_783 : p1 = 0
  · skip
    refine lv_tableIn (off := 47) (tgt := 48) hx hb dX11_about_1 (by rw [c_783]; decide) (by rw [c_783]; decide) (by rw [c_783]; decide) (by decide) ?_
    refine lv_aload_n hx hb dX11_about_48 rfl (lv_at hl 0 rfl) ?_
    refine va_get (D := D) (ci := 10) (v := .ref h1) (C := RX11) (T := TX11) (N := 13) hx hb hts inw_X11_about_X11 hown hK hP 0 rfl rfl 2 (by decide) (hts (.fieldLink RX11 28 "EarTable" "grid" "LEarTable$Grid;") (by decide +kernel)) (fun _ h9 => h9) rfl dX11_about_49 ?_
    refine va_getN (D := D) (ci := 1) (v := .int 0) (C := RX1) (T := TX1) (N := 8) hx hb hts inw_X11_about_X1 hown hK hP 1 rfl rfl 5 (by decide) (va_Nw.use rfl (hN.1 (RX11, 229, "EarTable$Grid", "columns", "I") (by decide +kernel))) (fun _ h9 => h9) rfl dX11_about_52 ?_
    have hP9 := hP.sub (ws' := [(h0, .inr (10, [.ref h5, v0, .ref h1, .ref h2, v1, v2, .ref h6, .ref h4, .ref h3, v3, v4, v5, v6])), (h1, .inr (1, [v7, v8, v9, v10, v11, .int 0, .int 0, .int 0])), (h2, .inr (8, [v12, v13, v14, .int 0, v15])), (h3, .inr (0, [v16, v17, v18, v19, .int 0])), (h4, .inr (7, [v20, v21, .int 0, v22, v23])), (h5, .inr (6, [v24, .int 0])), (h6, .inr (3, [v25, v26, v27, v28, .int 0, v29, v30]))]) [0, 1, 2, 3, 4, 5, 6] rfl
    have hD9 := hD.sub (ws' := [(h0, .inr (10, [.ref h5, v0, .ref h1, .ref h2, v1, v2, .ref h6, .ref h4, .ref h3, v3, v4, v5, v6])), (h1, .inr (1, [v7, v8, v9, v10, v11, .int 0, .int 0, .int 0])), (h2, .inr (8, [v12, v13, v14, .int 0, v15])), (h3, .inr (0, [v16, v17, v18, v19, .int 0])), (h4, .inr (7, [v20, v21, .int 0, v22, v23])), (h5, .inr (6, [v24, .int 0])), (h6, .inr (3, [v25, v26, v27, v28, .int 0, v29, v30]))]) [0, 1, 2, 3, 4, 5, 6] (by decide) rfl
    exact W.iret (v := 0) hx hb hr (fun t ht hW => ⟨⟨0, (), rfl, (by rw [c_783]; decide), by rw [ht]; exact hP9, hD9⟩, hS.F ht⟩) hS.2.2 dX11_about_55
  · skip
    by_cases c_784 : p1 = 1
    · skip
      refine lv_tableIn (off := 55) (tgt := 56) hx hb dX11_about_1 (by rw [c_784]; decide) (by rw [c_784]; decide) (by rw [c_784]; decide) (by decide) ?_
      refine lv_aload_n hx hb dX11_about_56 rfl (lv_at hl 0 rfl) ?_
      refine va_get (D := D) (ci := 10) (v := .ref h1) (C := RX11) (T := TX11) (N := 13) hx hb hts inw_X11_about_X11 hown hK hP 0 rfl rfl 2 (by decide) (hts (.fieldLink RX11 28 "EarTable" "grid" "LEarTable$Grid;") (by decide +kernel)) (fun _ h9 => h9) rfl dX11_about_57 ?_
      refine va_getN (D := D) (ci := 1) (v := .int 0) (C := RX1) (T := TX1) (N := 8) hx hb hts inw_X11_about_X1 hown hK hP 1 rfl rfl 6 (by decide) (va_Nw.use rfl (hN.1 (RX11, 106, "EarTable$Grid", "lines", "I") (by decide +kernel))) (fun _ h9 => h9) rfl dX11_about_60 ?_
      have hP9 := hP.sub (ws' := [(h0, .inr (10, [.ref h5, v0, .ref h1, .ref h2, v1, v2, .ref h6, .ref h4, .ref h3, v3, v4, v5, v6])), (h1, .inr (1, [v7, v8, v9, v10, v11, .int 0, .int 0, .int 0])), (h2, .inr (8, [v12, v13, v14, .int 0, v15])), (h3, .inr (0, [v16, v17, v18, v19, .int 0])), (h4, .inr (7, [v20, v21, .int 0, v22, v23])), (h5, .inr (6, [v24, .int 0])), (h6, .inr (3, [v25, v26, v27, v28, .int 0, v29, v30]))]) [0, 1, 2, 3, 4, 5, 6] rfl
      have hD9 := hD.sub (ws' := [(h0, .inr (10, [.ref h5, v0, .ref h1, .ref h2, v1, v2, .ref h6, .ref h4, .ref h3, v3, v4, v5, v6])), (h1, .inr (1, [v7, v8, v9, v10, v11, .int 0, .int 0, .int 0])), (h2, .inr (8, [v12, v13, v14, .int 0, v15])), (h3, .inr (0, [v16, v17, v18, v19, .int 0])), (h4, .inr (7, [v20, v21, .int 0, v22, v23])), (h5, .inr (6, [v24, .int 0])), (h6, .inr (3, [v25, v26, v27, v28, .int 0, v29, v30]))]) [0, 1, 2, 3, 4, 5, 6] (by decide) rfl
      exact W.iret (v := 0) hx hb hr (fun t ht hW => ⟨⟨0, (), rfl, (by rw [c_784]; decide), by rw [ht]; exact hP9, hD9⟩, hS.F ht⟩) hS.2.2 dX11_about_63
    · skip
      by_cases c_785 : p1 = 2
      · skip
        refine lv_tableIn (off := 63) (tgt := 64) hx hb dX11_about_1 (by rw [c_785]; decide) (by rw [c_785]; decide) (by rw [c_785]; decide) (by decide) ?_
        refine lv_aload_n hx hb dX11_about_64 rfl (lv_at hl 0 rfl) ?_
        refine va_get (D := D) (ci := 10) (v := .ref h1) (C := RX11) (T := TX11) (N := 13) hx hb hts inw_X11_about_X11 hown hK hP 0 rfl rfl 2 (by decide) (hts (.fieldLink RX11 28 "EarTable" "grid" "LEarTable$Grid;") (by decide +kernel)) (fun _ h9 => h9) rfl dX11_about_65 ?_
        refine va_getN (D := D) (ci := 1) (v := .int 0) (C := RX1) (T := TX1) (N := 8) hx hb hts inw_X11_about_X1 hown hK hP 1 rfl rfl 7 (by decide) (va_Nw.use rfl (hN.1 (RX11, 253, "EarTable$Grid", "levels", "I") (by decide +kernel))) (fun _ h9 => h9) rfl dX11_about_68 ?_
        have hP9 := hP.sub (ws' := [(h0, .inr (10, [.ref h5, v0, .ref h1, .ref h2, v1, v2, .ref h6, .ref h4, .ref h3, v3, v4, v5, v6])), (h1, .inr (1, [v7, v8, v9, v10, v11, .int 0, .int 0, .int 0])), (h2, .inr (8, [v12, v13, v14, .int 0, v15])), (h3, .inr (0, [v16, v17, v18, v19, .int 0])), (h4, .inr (7, [v20, v21, .int 0, v22, v23])), (h5, .inr (6, [v24, .int 0])), (h6, .inr (3, [v25, v26, v27, v28, .int 0, v29, v30]))]) [0, 1, 2, 3, 4, 5, 6] rfl
        have hD9 := hD.sub (ws' := [(h0, .inr (10, [.ref h5, v0, .ref h1, .ref h2, v1, v2, .ref h6, .ref h4, .ref h3, v3, v4, v5, v6])), (h1, .inr (1, [v7, v8, v9, v10, v11, .int 0, .int 0, .int 0])), (h2, .inr (8, [v12, v13, v14, .int 0, v15])), (h3, .inr (0, [v16, v17, v18, v19, .int 0])), (h4, .inr (7, [v20, v21, .int 0, v22, v23])), (h5, .inr (6, [v24, .int 0])), (h6, .inr (3, [v25, v26, v27, v28, .int 0, v29, v30]))]) [0, 1, 2, 3, 4, 5, 6] (by decide) rfl
        exact W.iret (v := 0) hx hb hr (fun t ht hW => ⟨⟨0, (), rfl, (by rw [c_785]; decide), by rw [ht]; exact hP9, hD9⟩, hS.F ht⟩) hS.2.2 dX11_about_71
      · skip
        by_cases c_786 : p1 = 3
        · skip
          refine lv_tableIn (off := 71) (tgt := 72) hx hb dX11_about_1 (by rw [c_786]; decide) (by rw [c_786]; decide) (by rw [c_786]; decide) (by decide) ?_
          refine lv_aload_n hx hb dX11_about_72 rfl (lv_at hl 0 rfl) ?_
          refine va_get (D := D) (ci := 10) (v := .ref h2) (C := RX11) (T := TX11) (N := 13) hx hb hts inw_X11_about_X11 hown hK hP 0 rfl rfl 3 (by decide) (hts (.fieldLink RX11 37 "EarTable" "view" "LEarTable$View;") (by decide +kernel)) (fun _ h9 => h9) rfl dX11_about_73 ?_
          refine va_getN (D := D) (ci := 8) (v := .int 0) (C := RX9) (T := TX9) (N := 5) hx hb hts inw_X11_about_X9 hown hK hP 2 rfl rfl 3 (by decide) (va_Nw.use rfl (hN.1 (RX11, 255, "EarTable$View", "size", "I") (by decide +kernel))) (fun _ h9 => h9) rfl dX11_about_76 ?_
          have hP9 := hP.sub (ws' := [(h0, .inr (10, [.ref h5, v0, .ref h1, .ref h2, v1, v2, .ref h6, .ref h4, .ref h3, v3, v4, v5, v6])), (h1, .inr (1, [v7, v8, v9, v10, v11, .int 0, .int 0, .int 0])), (h2, .inr (8, [v12, v13, v14, .int 0, v15])), (h3, .inr (0, [v16, v17, v18, v19, .int 0])), (h4, .inr (7, [v20, v21, .int 0, v22, v23])), (h5, .inr (6, [v24, .int 0])), (h6, .inr (3, [v25, v26, v27, v28, .int 0, v29, v30]))]) [0, 1, 2, 3, 4, 5, 6] rfl
          have hD9 := hD.sub (ws' := [(h0, .inr (10, [.ref h5, v0, .ref h1, .ref h2, v1, v2, .ref h6, .ref h4, .ref h3, v3, v4, v5, v6])), (h1, .inr (1, [v7, v8, v9, v10, v11, .int 0, .int 0, .int 0])), (h2, .inr (8, [v12, v13, v14, .int 0, v15])), (h3, .inr (0, [v16, v17, v18, v19, .int 0])), (h4, .inr (7, [v20, v21, .int 0, v22, v23])), (h5, .inr (6, [v24, .int 0])), (h6, .inr (3, [v25, v26, v27, v28, .int 0, v29, v30]))]) [0, 1, 2, 3, 4, 5, 6] (by decide) rfl
          exact W.iret (v := 0) hx hb hr (fun t ht hW => ⟨⟨0, (), rfl, (by rw [c_786]; decide), by rw [ht]; exact hP9, hD9⟩, hS.F ht⟩) hS.2.2 dX11_about_79
        · skip
          by_cases c_787 : p1 = 4
          · skip
            refine lv_tableIn (off := 79) (tgt := 80) hx hb dX11_about_1 (by rw [c_787]; decide) (by rw [c_787]; decide) (by rw [c_787]; decide) (by decide) ?_
            refine lv_aload_n hx hb dX11_about_80 rfl (lv_at hl 0 rfl) ?_
            refine va_get (D := D) (ci := 10) (v := .ref h3) (C := RX11) (T := TX11) (N := 13) hx hb hts inw_X11_about_X11 hown hK hP 0 rfl rfl 8 (by decide) (hts (.fieldLink RX11 76 "EarTable" "changes" "LEarTable$Changes;") (by decide +kernel)) (fun _ h9 => h9) rfl dX11_about_81 ?_
            refine va_getN (D := D) (ci := 0) (v := .int 0) (C := RX0) (T := TX0) (N := 5) hx hb hts inw_X11_about_X0 hown hK hP 3 rfl rfl 4 (by decide) (va_Nw.use rfl (hN.1 (RX11, 258, "EarTable$Changes", "count", "I") (by decide +kernel))) (fun _ h9 => h9) rfl dX11_about_84 ?_
            have hP9 := hP.sub (ws' := [(h0, .inr (10, [.ref h5, v0, .ref h1, .ref h2, v1, v2, .ref h6, .ref h4, .ref h3, v3, v4, v5, v6])), (h1, .inr (1, [v7, v8, v9, v10, v11, .int 0, .int 0, .int 0])), (h2, .inr (8, [v12, v13, v14, .int 0, v15])), (h3, .inr (0, [v16, v17, v18, v19, .int 0])), (h4, .inr (7, [v20, v21, .int 0, v22, v23])), (h5, .inr (6, [v24, .int 0])), (h6, .inr (3, [v25, v26, v27, v28, .int 0, v29, v30]))]) [0, 1, 2, 3, 4, 5, 6] rfl
            have hD9 := hD.sub (ws' := [(h0, .inr (10, [.ref h5, v0, .ref h1, .ref h2, v1, v2, .ref h6, .ref h4, .ref h3, v3, v4, v5, v6])), (h1, .inr (1, [v7, v8, v9, v10, v11, .int 0, .int 0, .int 0])), (h2, .inr (8, [v12, v13, v14, .int 0, v15])), (h3, .inr (0, [v16, v17, v18, v19, .int 0])), (h4, .inr (7, [v20, v21, .int 0, v22, v23])), (h5, .inr (6, [v24, .int 0])), (h6, .inr (3, [v25, v26, v27, v28, .int 0, v29, v30]))]) [0, 1, 2, 3, 4, 5, 6] (by decide) rfl
            exact W.iret (v := 0) hx hb hr (fun t ht hW => ⟨⟨0, (), rfl, (by rw [c_787]; decide), by rw [ht]; exact hP9, hD9⟩, hS.F ht⟩) hS.2.2 dX11_about_87
          · skip
            by_cases c_788 : p1 = 5
            · skip
              refine lv_tableIn (off := 87) (tgt := 88) hx hb dX11_about_1 (by rw [c_788]; decide) (by rw [c_788]; decide) (by rw [c_788]; decide) (by decide) ?_
              refine lv_aload_n hx hb dX11_about_88 rfl (lv_at hl 0 rfl) ?_
              refine va_get (D := D) (ci := 10) (v := .ref h4) (C := RX11) (T := TX11) (N := 13) hx hb hts inw_X11_about_X11 hown hK hP 0 rfl rfl 7 (by decide) (hts (.fieldLink RX11 69 "EarTable" "trail" "LEarTable$Trail;") (by decide +kernel)) (fun _ h9 => h9) rfl dX11_about_89 ?_
              refine va_getN (D := D) (ci := 7) (v := .int 0) (C := RX8) (T := TX8) (N := 5) hx hb hts inw_X11_about_X8 hown hK hP 4 rfl rfl 2 (by decide) (va_Nw.use rfl (hN.1 (RX11, 259, "EarTable$Trail", "count", "I") (by decide +kernel))) (fun _ h9 => h9) rfl dX11_about_92 ?_
              have hP9 := hP.sub (ws' := [(h0, .inr (10, [.ref h5, v0, .ref h1, .ref h2, v1, v2, .ref h6, .ref h4, .ref h3, v3, v4, v5, v6])), (h1, .inr (1, [v7, v8, v9, v10, v11, .int 0, .int 0, .int 0])), (h2, .inr (8, [v12, v13, v14, .int 0, v15])), (h3, .inr (0, [v16, v17, v18, v19, .int 0])), (h4, .inr (7, [v20, v21, .int 0, v22, v23])), (h5, .inr (6, [v24, .int 0])), (h6, .inr (3, [v25, v26, v27, v28, .int 0, v29, v30]))]) [0, 1, 2, 3, 4, 5, 6] rfl
              have hD9 := hD.sub (ws' := [(h0, .inr (10, [.ref h5, v0, .ref h1, .ref h2, v1, v2, .ref h6, .ref h4, .ref h3, v3, v4, v5, v6])), (h1, .inr (1, [v7, v8, v9, v10, v11, .int 0, .int 0, .int 0])), (h2, .inr (8, [v12, v13, v14, .int 0, v15])), (h3, .inr (0, [v16, v17, v18, v19, .int 0])), (h4, .inr (7, [v20, v21, .int 0, v22, v23])), (h5, .inr (6, [v24, .int 0])), (h6, .inr (3, [v25, v26, v27, v28, .int 0, v29, v30]))]) [0, 1, 2, 3, 4, 5, 6] (by decide) rfl
              exact W.iret (v := 0) hx hb hr (fun t ht hW => ⟨⟨0, (), rfl, (by rw [c_788]; decide), by rw [ht]; exact hP9, hD9⟩, hS.F ht⟩) hS.2.2 dX11_about_95
            · skip
              by_cases c_789 : p1 = 6
              · skip
                refine lv_tableIn (off := 95) (tgt := 96) hx hb dX11_about_1 (by rw [c_789]; decide) (by rw [c_789]; decide) (by rw [c_789]; decide) (by decide) ?_
                refine lv_aload_n hx hb dX11_about_96 rfl (lv_at hl 0 rfl) ?_
                refine va_get (D := D) (ci := 10) (v := .ref h5) (C := RX11) (T := TX11) (N := 13) hx hb hts inw_X11_about_X11 hown hK hP 0 rfl rfl 0 (by decide) (hts (.fieldLink RX11 10 "EarTable" "tape" "LEarTable$Tape;") (by decide +kernel)) (fun _ h9 => h9) rfl dX11_about_97 ?_
                refine va_getN (D := D) (ci := 6) (v := .int 0) (C := RX7) (T := TX7) (N := 2) hx hb hts inw_X11_about_X7 hown hK hP 5 rfl rfl 1 (by decide) (va_Nw.use rfl (hN.1 (RX11, 90, "EarTable$Tape", "length", "I") (by decide +kernel))) (fun _ h9 => h9) rfl dX11_about_100 ?_
                have hP9 := hP.sub (ws' := [(h0, .inr (10, [.ref h5, v0, .ref h1, .ref h2, v1, v2, .ref h6, .ref h4, .ref h3, v3, v4, v5, v6])), (h1, .inr (1, [v7, v8, v9, v10, v11, .int 0, .int 0, .int 0])), (h2, .inr (8, [v12, v13, v14, .int 0, v15])), (h3, .inr (0, [v16, v17, v18, v19, .int 0])), (h4, .inr (7, [v20, v21, .int 0, v22, v23])), (h5, .inr (6, [v24, .int 0])), (h6, .inr (3, [v25, v26, v27, v28, .int 0, v29, v30]))]) [0, 1, 2, 3, 4, 5, 6] rfl
                have hD9 := hD.sub (ws' := [(h0, .inr (10, [.ref h5, v0, .ref h1, .ref h2, v1, v2, .ref h6, .ref h4, .ref h3, v3, v4, v5, v6])), (h1, .inr (1, [v7, v8, v9, v10, v11, .int 0, .int 0, .int 0])), (h2, .inr (8, [v12, v13, v14, .int 0, v15])), (h3, .inr (0, [v16, v17, v18, v19, .int 0])), (h4, .inr (7, [v20, v21, .int 0, v22, v23])), (h5, .inr (6, [v24, .int 0])), (h6, .inr (3, [v25, v26, v27, v28, .int 0, v29, v30]))]) [0, 1, 2, 3, 4, 5, 6] (by decide) rfl
                exact W.iret (v := 0) hx hb hr (fun t ht hW => ⟨⟨0, (), rfl, (by rw [c_789]; decide), by rw [ht]; exact hP9, hD9⟩, hS.F ht⟩) hS.2.2 dX11_about_103
              · skip
                by_cases c_790 : p1 = 7
                · skip
                  refine lv_tableIn (off := 103) (tgt := 104) hx hb dX11_about_1 (by rw [c_790]; decide) (by rw [c_790]; decide) (by rw [c_790]; decide) (by decide) ?_
                  refine lv_aload_n hx hb dX11_about_104 rfl (lv_at hl 0 rfl) ?_
                  refine va_get (D := D) (ci := 10) (v := .ref h6) (C := RX11) (T := TX11) (N := 13) hx hb hts inw_X11_about_X11 hown hK hP 0 rfl rfl 6 (by decide) (hts (.fieldLink RX11 62 "EarTable" "speech" "LEarTable$Speech;") (by decide +kernel)) (fun _ h9 => h9) rfl dX11_about_105 ?_
                  refine va_getN (D := D) (ci := 3) (v := .int 0) (C := RX4) (T := TX4) (N := 7) hx hb hts inw_X11_about_X4 hown hK hP 6 rfl rfl 4 (by decide) (va_Nw.use rfl (hN.1 (RX11, 195, "EarTable$Speech", "count", "I") (by decide +kernel))) (fun _ h9 => h9) rfl dX11_about_108 ?_
                  have hP9 := hP.sub (ws' := [(h0, .inr (10, [.ref h5, v0, .ref h1, .ref h2, v1, v2, .ref h6, .ref h4, .ref h3, v3, v4, v5, v6])), (h1, .inr (1, [v7, v8, v9, v10, v11, .int 0, .int 0, .int 0])), (h2, .inr (8, [v12, v13, v14, .int 0, v15])), (h3, .inr (0, [v16, v17, v18, v19, .int 0])), (h4, .inr (7, [v20, v21, .int 0, v22, v23])), (h5, .inr (6, [v24, .int 0])), (h6, .inr (3, [v25, v26, v27, v28, .int 0, v29, v30]))]) [0, 1, 2, 3, 4, 5, 6] rfl
                  have hD9 := hD.sub (ws' := [(h0, .inr (10, [.ref h5, v0, .ref h1, .ref h2, v1, v2, .ref h6, .ref h4, .ref h3, v3, v4, v5, v6])), (h1, .inr (1, [v7, v8, v9, v10, v11, .int 0, .int 0, .int 0])), (h2, .inr (8, [v12, v13, v14, .int 0, v15])), (h3, .inr (0, [v16, v17, v18, v19, .int 0])), (h4, .inr (7, [v20, v21, .int 0, v22, v23])), (h5, .inr (6, [v24, .int 0])), (h6, .inr (3, [v25, v26, v27, v28, .int 0, v29, v30]))]) [0, 1, 2, 3, 4, 5, 6] (by decide) rfl
                  exact W.iret (v := 0) hx hb hr (fun t ht hW => ⟨⟨0, (), rfl, (by rw [c_790]; decide), by rw [ht]; exact hP9, hD9⟩, hS.F ht⟩) hS.2.2 dX11_about_111
                · skip
                  refine lv_tableOut (tgt := 112) hx hb dX11_about_1 (kn_ne8 c_783 c_784 c_785 c_786 c_787 c_788 c_789 c_790) (by decide) ?_
                  refine lv_iconst (v := (-1)) hx hb dX11_about_112 (by decide) ?_
                  have hP9 := hP.sub (ws' := [(h0, .inr (10, [.ref h5, v0, .ref h1, .ref h2, v1, v2, .ref h6, .ref h4, .ref h3, v3, v4, v5, v6])), (h1, .inr (1, [v7, v8, v9, v10, v11, .int 0, .int 0, .int 0])), (h2, .inr (8, [v12, v13, v14, .int 0, v15])), (h3, .inr (0, [v16, v17, v18, v19, .int 0])), (h4, .inr (7, [v20, v21, .int 0, v22, v23])), (h5, .inr (6, [v24, .int 0])), (h6, .inr (3, [v25, v26, v27, v28, .int 0, v29, v30]))]) [0, 1, 2, 3, 4, 5, 6] rfl
                  have hD9 := hD.sub (ws' := [(h0, .inr (10, [.ref h5, v0, .ref h1, .ref h2, v1, v2, .ref h6, .ref h4, .ref h3, v3, v4, v5, v6])), (h1, .inr (1, [v7, v8, v9, v10, v11, .int 0, .int 0, .int 0])), (h2, .inr (8, [v12, v13, v14, .int 0, v15])), (h3, .inr (0, [v16, v17, v18, v19, .int 0])), (h4, .inr (7, [v20, v21, .int 0, v22, v23])), (h5, .inr (6, [v24, .int 0])), (h6, .inr (3, [v25, v26, v27, v28, .int 0, v29, v30]))]) [0, 1, 2, 3, 4, 5, 6] (by decide) rfl
                  exact W.iret (v := (-1)) hx hb hr (fun t ht hW => ⟨⟨(-1), (), rfl, (kA8 c_783 c_784 c_785 c_786 c_787 c_788 c_789 c_790), by rw [ht]; exact hP9, hD9⟩, hS.F ht⟩) hS.2.2 dX11_about_113
