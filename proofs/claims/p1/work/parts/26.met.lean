def o_X12_first : List Cond := [.methodLink RX12 285 yX12_keys, .instanceMethod yX12_keys, .selects RX12 yX12_keys yX12_keys, .initialized RX12]
def u_X12_first : List Cond := .code yX12_first cX12_first 6 (some .int) :: (o_X12_first ++ (u_X12_keys ++ ([] : List Cond)))
theorem gs_X12_first__X12_keys : GoodIn u_X12_first u_X12_keys := goodIn_sub (fun w h => List.mem_cons_of_mem _ (List.mem_append_right _ (List.mem_append_left _ h))) good_X12_keys
set_option maxRecDepth 20000 in
theorem good_X12_first : u_X12_first.all goodWord = true := by decide +kernel
set_option maxRecDepth 20000 in
theorem in_X12_first : ∀ w ∈ u_X12_first, w ∈ lw_tbl := ma_cons inc_X12_first (ma_app (ma_pos o_X12_first [1209, 1198, 1199, 76] (by decide +kernel)) (ma_app in_X12_keys ma_nil))
set_option maxHeartbeats 4000000 in
set_option maxRecDepth 100000 in
theorem c_X12_first (l : Launch) (D : va_G) (cI cJ cZ cB : ClassId) (sz : Nat) (h0 : Nat) (v0 : Value) (v1 : Value) (v2 : Value) (v3 : Value) (v4 : Value) (v5 : Value) (v6 : Value) (v7 : Value) (v8 : Value) (v9 : Value) (v10 : Value) (v11 : Value) (v12 : Value) (v13 : Value) (v14 : Value) (v15 : Value) (v16 : Value) (v17 : Value) (v18 : Value) (v19 : Value) (v20 : Value) (v21 : Value) (v22 : Value) (v23 : Value) (v24 : Value) (v25 : Value) (v26 : Value) (v27 : Value) (v28 : Value) (v29 : Value) (v30 : Value) (v31 : Value) (v32 : Value) (v33 : Value) (v34 : Value) (v35 : Value) (v36 : Value) (v37 : Value) (v38 : Value) (v39 : Value) (v40 : Value) (v41 : Value) (v42 : Value) (v43 : Value) (v44 : Value) (v45 : Value) (v46 : Value) (v47 : Value) (v48 : Value) (p1 : Int32) (p2 : Int32) : Met l yX12_first u_X12_first ({ frames := 1, cells := 0, slots := 0, locals := 22 }) (va_Pc [.ref h0, .int p1, .int p2] (kPre D cI cJ cZ cB [(h0, .inr (11, [v0, v1, v2, v3, v4, v5, v6, v7, v8, v9, v10, v11, v12, v13, v14, v15, v16, v17, v18, v19, v20, v21, v22, v23, v24, v25, v26, .int (-1), v27, v28, v29, v30, v31, v32, v33, v34, v35, v36, v37, v38, v39, v40, v41, v42, v43, v44, v45, v46, v47, v48]))] sz)) (va_Qi (fun (r : Int32) (_ : Unit) => r = (-1)) (kB D (fun (u : Unit) => [(h0, .inr (11, [v0, v1, v2, v3, v4, v5, v6, v7, v8, v9, v10, v11, v12, v13, v14, v15, v16, v17, v18, v19, v20, v21, v22, v23, v24, v25, v26, .int (-1), v27, v28, v29, v30, v31, v32, v33, v34, v35, v36, v37, v38, v39, v40, v41, v42, v43, v44, v45, v46, v47, v48]))]) (va_A [(h0, .inr (11, [v0, v1, v2, v3, v4, v5, v6, v7, v8, v9, v10, v11, v12, v13, v14, v15, v16, v17, v18, v19, v20, v21, v22, v23, v24, v25, v26, .int (-1), v27, v28, v29, v30, v31, v32, v33, v34, v35, v36, v37, v38, v39, v40, v41, v42, v43, v44, v45, v46, v47, v48]))] sz)) (va_A [(h0, .inr (11, [v0, v1, v2, v3, v4, v5, v6, v7, v8, v9, v10, v11, v12, v13, v14, v15, v16, v17, v18, v19, v20, v21, v22, v23, v24, v25, v26, .int (-1), v27, v28, v29, v30, v31, v32, v33, v34, v35, v36, v37, v38, v39, v40, v41, v42, v43, v44, v45, v46, v47, v48]))] sz)) 0 0 (va_A [(h0, .inr (11, [v0, v1, v2, v3, v4, v5, v6, v7, v8, v9, v10, v11, v12, v13, v14, v15, v16, v17, v18, v19, v20, v21, v22, v23, v24, v25, v26, .int (-1), v27, v28, v29, v30, v31, v32, v33, v34, v35, v36, v37, v38, v39, v40, v41, v42, v43, v44, v45, v46, v47, v48]))] sz) := by
  refine Met.ofW (cc := cX12_first) (maxL := 6) (ret := (some .int)) (by decide) rfl ?_
  intro p e s m args below meth c s₁ B hml hv
  obtain ⟨rfl, hsz, hP, hK, hN, hD0⟩ := hv
  have hx := B.exec
  have hb := B.bytes
  have hr := B.returns
  have hts := atoms_spec (ws := u_X12_first) B.pre
  have hown : s.vm.findClass RX12 = some m.cls := findClass_of_methodNamed B.named
  have hlocks := B.notSynchronized
  subst hsz
  have hD := hD0.self (sz := s.heap.size)
  generalize hAe : va_A [(h0, .inr (11, [v0, v1, v2, v3, v4, v5, v6, v7, v8, v9, v10, v11, v12, v13, v14, v15, v16, v17, v18, v19, v20, v21, v22, v23, v24, v25, v26, .int (-1), v27, v28, v29, v30, v31, v32, v33, v34, v35, v36, v37, v38, v39, v40, v41, v42, v43, v44, v45, v46, v47, v48]))] s.heap.size = A at hD ⊢
  have hA : ∀ q : Nat, s.heap.size ≤ q → A q := fun q h => by rw [← hAe]; exact Or.inr h
  have hS : va_S A s.heap s.heap [] := va_S.rf
  have hP : va_P D vwCl [(h0, .inr (11, [v0, v1, v2, v3, v4, v5, v6, v7, v8, v9, v10, v11, v12, v13, v14, v15, v16, v17, v18, v19, v20, v21, v22, v23, v24, v25, v26, .int (-1), v27, v28, v29, v30, v31, v32, v33, v34, v35, v36, v37, v38, v39, v40, v41, v42, v43, v44, v45, v46, v47, v48]))] s.heap := hP
  have hl := lv_entry ([.ref h0, .int p1, .int p2]) (n := 6) (Nat.le_of_ble_eq_true rfl)
  rw [lg_entry_eq]
  generalize (lg_sl ([.ref h0, .int p1, .int p2]) ++ List.replicate (6 - (lg_sl ([.ref h0, .int p1, .int p2])).length) Slot.unset).toArray = ls at hl ⊢
  have hl : lv_has ls 6 [(0, .ref h0), (1, .int p1), (2, .int p2)] := hl
  obtain ⟨H, hHe⟩ : ∃ H, s.heap = H := ⟨_, rfl⟩
  have hP : va_P D vwCl [(h0, .inr (11, [v0, v1, v2, v3, v4, v5, v6, v7, v8, v9, v10, v11, v12, v13, v14, v15, v16, v17, v18, v19, v20, v21, v22, v23, v24, v25, v26, .int (-1), v27, v28, v29, v30, v31, v32, v33, v34, v35, v36, v37, v38, v39, v40, v41, v42, v43, v44, v45, v46, v47, v48]))] H := by rw [← hHe]; exact hP
  have hS : va_S A s.heap H [] := by rw [← hHe]; exact hS
  refine kn_heap hHe ?_
  refine lv_aload_n hx hb dX12_first_0 rfl (lv_at hl 0 rfl) ?_
  refine lv_iload_n hx hb dX12_first_1 rfl (lv_at hl 1 rfl) ?_
  refine lv_iload_n hx hb dX12_first_2 rfl (lv_at hl 2 rfl) ?_
  have hPc := hP.sub (ws' := [(h0, .inr (11, [v0, v1, v2, v3, v4, v5, v6, v7, v8, v9, v10, v11, v12, v13, v14, v15, v16, v17, v18, v19, v20, v21, v22, v23, v24, v25, v26, .int (-1), v27, v28, v29, v30, v31, v32, v33, v34, v35, v36, v37, v38, v39, v40, v41, v42, v43, v44, v45, v46, v47, v48]))]) [0] rfl
  have hDc := hD.sub (ws' := [(h0, .inr (11, [v0, v1, v2, v3, v4, v5, v6, v7, v8, v9, v10, v11, v12, v13, v14, v15, v16, v17, v18, v19, v20, v21, v22, v23, v24, v25, v26, .int (-1), v27, v28, v29, v30, v31, v32, v33, v34, v35, v36, v37, v38, v39, v40, v41, v42, v43, v44, v45, v46, v47, v48]))]) [0] (by decide) rfl
  refine kn_calli (wr := []) (cells' := 0) (slots' := 0) (va_runV (As := [.int p1, .int p2]) (rest := []) ⟨hx, hb, hml, hown, hts⟩ (c_X12_keys l D cI cJ cZ cB H.size h0 v0 v1 v2 v3 v4 v5 v6 v7 v8 v9 v10 v11 v12 v13 v14 v15 v16 v17 v18 v19 v20 v21 v22 v23 v24 v25 v26 v27 v28 v29 v30 v31 v32 v33 v34 v35 v36 v37 v38 v39 v40 v41 v42 v43 v44 v45 v46 v47 v48 p1 p2) (cwV 2 hts (goodIn_app (goodIn_of _ (by decide +kernel)) gs_X12_first__X12_keys) rfl rfl rfl (by decide +kernel) ⟨(Nat.le_of_ble_eq_true rfl), (Nat.le_of_ble_eq_true rfl)⟩) (kp_V 0 11 rfl rfl hPc hK hN hDc) rfl rfl hl.1 rfl (lv_room (Nat.le_of_ble_eq_true rfl)) dX12_first_3 ⟨(Nat.le_of_ble_eq_true rfl), (Nat.le_of_ble_eq_true rfl)⟩) hS hA hP hD [0] [] rfl rfl (by decide) (by decide) (Nat.le_of_ble_eq_true rfl) (Nat.le_of_ble_eq_true rfl) (fun r_688 u H locs hw_689 hP hD hS => ?_)
  have hP : va_P D vwCl [(h0, .inr (11, [v0, v1, v2, v3, v4, v5, v6, v7, v8, v9, v10, v11, v12, v13, v14, v15, v16, v17, v18, v19, v20, v21, v22, v23, v24, v25, v26, .int (-1), v27, v28, v29, v30, v31, v32, v33, v34, v35, v36, v37, v38, v39, v40, v41, v42, v43, v44, v45, v46, v47, v48]))] H := hP
  have hD : va_D A [(h0, .inr (11, [v0, v1, v2, v3, v4, v5, v6, v7, v8, v9, v10, v11, v12, v13, v14, v15, v16, v17, v18, v19, v20, v21, v22, v23, v24, v25, v26, .int (-1), v27, v28, v29, v30, v31, v32, v33, v34, v35, v36, v37, v38, v39, v40, v41, v42, v43, v44, v45, v46, v47, v48]))] := hD
  subst hw_689
  refine lv_istore_n (lv' := [(3, .int (-1)), (0, .ref h0), (1, .int p1), (2, .int p2)]) hx hb dX12_first_6 rfl hl (by decide) rfl (fun ls hl => ?_)
  refine lv_iload_n hx hb dX12_first_7 rfl (lv_at hl 0 rfl) ?_
  refine lv_iconst (v := 1) hx hb dX12_first_8 (by decide) ?_
  refine lv_icmp_ge (tgt := 14) hx hb dX12_first_9 (by decide) (fun c_690 => ?_) (fun c_690 => ?_)
  · skip
    exact absurd c_690 (by decide)
  · skip
    refine lv_iconst (v := (-1)) hx hb dX12_first_12 (by decide) ?_
    have hP9 := hP.sub (ws' := [(h0, .inr (11, [v0, v1, v2, v3, v4, v5, v6, v7, v8, v9, v10, v11, v12, v13, v14, v15, v16, v17, v18, v19, v20, v21, v22, v23, v24, v25, v26, .int (-1), v27, v28, v29, v30, v31, v32, v33, v34, v35, v36, v37, v38, v39, v40, v41, v42, v43, v44, v45, v46, v47, v48]))]) [0] rfl
    have hD9 := hD.sub (ws' := [(h0, .inr (11, [v0, v1, v2, v3, v4, v5, v6, v7, v8, v9, v10, v11, v12, v13, v14, v15, v16, v17, v18, v19, v20, v21, v22, v23, v24, v25, v26, .int (-1), v27, v28, v29, v30, v31, v32, v33, v34, v35, v36, v37, v38, v39, v40, v41, v42, v43, v44, v45, v46, v47, v48]))]) [0] (by decide) rfl
    exact W.iret (v := (-1)) hx hb hr (fun t ht hW => ⟨⟨(-1), (), rfl, rfl, by rw [ht]; exact hP9, hD9⟩, hS.F ht⟩) hS.2.2 dX12_first_13
def o_X1_lineSpotOf : List Cond := [.methodLink RX1 45 yX1_spotOf, .instanceMethod yX1_spotOf, .selects RX1 yX1_spotOf yX1_spotOf, .initialized RX1]
def u_X1_lineSpotOf : List Cond := .code yX1_lineSpotOf cX1_lineSpotOf 3 (some .int) :: (o_X1_lineSpotOf ++ (u_X1_spotOf ++ ([] : List Cond)))
theorem gs_X1_lineSpotOf__X1_spotOf : GoodIn u_X1_lineSpotOf u_X1_spotOf := goodIn_sub (fun w h => List.mem_cons_of_mem _ (List.mem_append_right _ (List.mem_append_left _ h))) good_X1_spotOf
set_option maxRecDepth 20000 in
theorem good_X1_lineSpotOf : u_X1_lineSpotOf.all goodWord = true := by decide +kernel
set_option maxRecDepth 20000 in
theorem in_X1_lineSpotOf : ∀ w ∈ u_X1_lineSpotOf, w ∈ lw_tbl := ma_cons inc_X1_lineSpotOf (ma_app (ma_pos o_X1_lineSpotOf [656, 547, 548, 68] (by decide +kernel)) (ma_app in_X1_spotOf ma_nil))
set_option maxHeartbeats 4000000 in
set_option maxRecDepth 100000 in
theorem c_X1_lineSpotOf (l : Launch) (D : va_G) (cI cJ cZ cB : ClassId) (sz : Nat) (h0 : Nat) (v0 : Value) (v1 : Value) (v2 : Value) (v3 : Value) (v4 : Value) (v5 : Value) (v6 : Value) (p1 : Int32) (p2 : Int32) : Met l yX1_lineSpotOf u_X1_lineSpotOf ({ frames := 1, cells := 0, slots := 0, locals := 24 }) (va_Pc [.ref h0, .int p1, .int p2] (kPre D cI cJ cZ cB [(h0, .inr (1, [v0, v1, v2, v3, v4, .int 0, v5, v6]))] sz)) (va_Qi (fun (r : Int32) (_ : Unit) => r = (-1)) (kB D (fun (u : Unit) => [(h0, .inr (1, [v0, v1, v2, v3, v4, .int 0, v5, v6]))]) (va_A [(h0, .inr (1, [v0, v1, v2, v3, v4, .int 0, v5, v6]))] sz)) (va_A [(h0, .inr (1, [v0, v1, v2, v3, v4, .int 0, v5, v6]))] sz)) 0 0 (va_A [(h0, .inr (1, [v0, v1, v2, v3, v4, .int 0, v5, v6]))] sz) := by
  refine Met.ofW (cc := cX1_lineSpotOf) (maxL := 3) (ret := (some .int)) (by decide) rfl ?_
  intro p e s m args below meth c s₁ B hml hv
  obtain ⟨rfl, hsz, hP, hK, hN, hD0⟩ := hv
  have hx := B.exec
  have hb := B.bytes
  have hr := B.returns
  have hts := atoms_spec (ws := u_X1_lineSpotOf) B.pre
  have hown : s.vm.findClass RX1 = some m.cls := findClass_of_methodNamed B.named
  have hlocks := B.notSynchronized
  subst hsz
  have hD := hD0.self (sz := s.heap.size)
  generalize hAe : va_A [(h0, .inr (1, [v0, v1, v2, v3, v4, .int 0, v5, v6]))] s.heap.size = A at hD ⊢
  have hA : ∀ q : Nat, s.heap.size ≤ q → A q := fun q h => by rw [← hAe]; exact Or.inr h
  have hS : va_S A s.heap s.heap [] := va_S.rf
  have hP : va_P D vwCl [(h0, .inr (1, [v0, v1, v2, v3, v4, .int 0, v5, v6]))] s.heap := hP
  have hl := lv_entry ([.ref h0, .int p1, .int p2]) (n := 3) (Nat.le_of_ble_eq_true rfl)
  rw [lg_entry_eq]
  generalize (lg_sl ([.ref h0, .int p1, .int p2]) ++ List.replicate (3 - (lg_sl ([.ref h0, .int p1, .int p2])).length) Slot.unset).toArray = ls at hl ⊢
  have hl : lv_has ls 3 [(0, .ref h0), (1, .int p1), (2, .int p2)] := hl
  obtain ⟨H, hHe⟩ : ∃ H, s.heap = H := ⟨_, rfl⟩
  have hP : va_P D vwCl [(h0, .inr (1, [v0, v1, v2, v3, v4, .int 0, v5, v6]))] H := by rw [← hHe]; exact hP
  have hS : va_S A s.heap H [] := by rw [← hHe]; exact hS
  refine kn_heap hHe ?_
  refine lv_iload_n hx hb dX1_lineSpotOf_0 rfl (lv_at hl 1 rfl) ?_
  refine lv_if_ge (tgt := 8) hx hb dX1_lineSpotOf_1 (by decide) (fun c_696 => ?_) (fun c_696 => ?_)
  · skip
    refine lv_aload_n hx hb dX1_lineSpotOf_8 rfl (lv_at hl 0 rfl) ?_
    refine lv_iload_n hx hb dX1_lineSpotOf_9 rfl (lv_at hl 1 rfl) ?_
    refine lv_iload_n hx hb dX1_lineSpotOf_10 rfl (lv_at hl 2 rfl) ?_
    have hPc := hP.sub (ws' := [(h0, .inr (1, [v0, v1, v2, v3, v4, .int 0, v5, v6]))]) [0] rfl
    have hDc := hD.sub (ws' := [(h0, .inr (1, [v0, v1, v2, v3, v4, .int 0, v5, v6]))]) [0] (by decide) rfl
    refine kn_calli (wr := []) (cells' := 0) (slots' := 0) (va_runV (As := [.int p1, .int p2]) (rest := []) ⟨hx, hb, hml, hown, hts⟩ (c_X1_spotOf l D cI cJ cZ cB H.size h0 v0 v1 v2 v3 v4 v5 v6 p1 p2) (cwV 2 hts (goodIn_app (goodIn_of _ (by decide +kernel)) gs_X1_lineSpotOf__X1_spotOf) rfl rfl rfl (by decide +kernel) ⟨(Nat.le_of_ble_eq_true rfl), (Nat.le_of_ble_eq_true rfl)⟩) (kp_V 0 1 rfl rfl hPc hK hN hDc) rfl rfl hl.1 rfl (lv_room (Nat.le_of_ble_eq_true rfl)) dX1_lineSpotOf_11 ⟨(Nat.le_of_ble_eq_true rfl), (Nat.le_of_ble_eq_true rfl)⟩) hS hA hP hD [0] [] rfl rfl (by decide) (by decide) (Nat.le_of_ble_eq_true rfl) (Nat.le_of_ble_eq_true rfl) (fun r_697 u H locs hw_698 hP hD hS => ?_)
    have hP : va_P D vwCl [(h0, .inr (1, [v0, v1, v2, v3, v4, .int 0, v5, v6]))] H := hP
    have hD : va_D A [(h0, .inr (1, [v0, v1, v2, v3, v4, .int 0, v5, v6]))] := hD
    subst hw_698
    have hP9 := hP.sub (ws' := [(h0, .inr (1, [v0, v1, v2, v3, v4, .int 0, v5, v6]))]) [0] rfl
    have hD9 := hD.sub (ws' := [(h0, .inr (1, [v0, v1, v2, v3, v4, .int 0, v5, v6]))]) [0] (by decide) rfl
    exact W.iret (v := (-1)) hx hb hr (fun t ht hW => ⟨⟨(-1), (), rfl, rfl, by rw [ht]; exact hP9, hD9⟩, hS.F ht⟩) hS.2.2 dX1_lineSpotOf_14
  · skip
    refine lv_iconst (v := (-1)) hx hb dX1_lineSpotOf_4 (by decide) ?_
    refine lv_goto (tgt := 14) hx hb dX1_lineSpotOf_5 (by decide) ?_
    have hP9 := hP.sub (ws' := [(h0, .inr (1, [v0, v1, v2, v3, v4, .int 0, v5, v6]))]) [0] rfl
    have hD9 := hD.sub (ws' := [(h0, .inr (1, [v0, v1, v2, v3, v4, .int 0, v5, v6]))]) [0] (by decide) rfl
    exact W.iret (v := (-1)) hx hb hr (fun t ht hW => ⟨⟨(-1), (), rfl, rfl, by rw [ht]; exact hP9, hD9⟩, hS.F ht⟩) hS.2.2 dX1_lineSpotOf_14
def o_X11_changeCell : List Cond := [.fieldLink RX11 28 "EarTable" "grid" "LEarTable$Grid;", .methodLink RX11 276 yX1_lineSpotOf, .instanceMethod yX1_lineSpotOf, .selects RX1 yX1_lineSpotOf yX1_lineSpotOf, .initialized RX1]
def u_X11_changeCell : List Cond := .code yX11_changeCell cX11_changeCell 6 (some .int) :: (o_X11_changeCell ++ (u_X1_lineSpotOf ++ (wsX110 ++ ([] : List Cond))))
theorem gs_X11_changeCell__X1_lineSpotOf : GoodIn u_X11_changeCell u_X1_lineSpotOf := goodIn_sub (fun w h => List.mem_cons_of_mem _ (List.mem_append_right _ (List.mem_append_left _ h))) good_X1_lineSpotOf
theorem inw_X11_changeCell_X11 : ∀ w ∈ wsX110, w ∈ u_X11_changeCell := fun w h => List.mem_cons_of_mem _ (List.mem_append_right _ (List.mem_append_right _ (List.mem_append_left _ h)))
set_option maxRecDepth 20000 in
theorem good_X11_changeCell : u_X11_changeCell.all goodWord = true := by decide +kernel
set_option maxRecDepth 20000 in
theorem in_X11_changeCell : ∀ w ∈ u_X11_changeCell, w ∈ lw_tbl := ma_cons inc_X11_changeCell (ma_app (ma_pos o_X11_changeCell [386, 760, 653, 654, 68] (by decide +kernel)) (ma_app in_X1_lineSpotOf (ma_app inb_X11 ma_nil)))
set_option maxHeartbeats 4000000 in
set_option maxRecDepth 100000 in
theorem c_X11_changeCell (l : Launch) (D : va_G) (cI cJ cZ cB : ClassId) (sz : Nat) (h0 : Nat) (h1 : Nat) (v0 : Value) (v1 : Value) (v2 : Value) (v3 : Value) (v4 : Value) (v5 : Value) (v6 : Value) (v7 : Value) (v8 : Value) (v9 : Value) (v10 : Value) (v11 : Value) (v12 : Value) (v13 : Value) (v14 : Value) (v15 : Value) (v16 : Value) (v17 : Value) (v18 : Value) (p1 : Int32) (p2 : Int32) (p4 : Int32) : Met l yX11_changeCell u_X11_changeCell ({ frames := 2, cells := 0, slots := 0, locals := 46 }) (va_Pc [.ref h0, .int p1, .int p2, .int 1, .int p4] (kPre D cI cJ cZ cB [(h0, .inr (10, [v0, v1, .ref h1, v2, v3, v4, v5, v6, v7, v8, v9, v10, v11])), (h1, .inr (1, [v12, v13, v14, v15, v16, .int 0, v17, v18]))] sz)) (va_Qi (fun (r : Int32) (_ : Unit) => r = (-1)) (kB D (fun (u : Unit) => [(h0, .inr (10, [v0, v1, .ref h1, v2, v3, v4, v5, v6, v7, v8, v9, v10, v11])), (h1, .inr (1, [v12, v13, v14, v15, v16, .int 0, v17, v18]))]) (va_A [(h0, .inr (10, [v0, v1, .ref h1, v2, v3, v4, v5, v6, v7, v8, v9, v10, v11])), (h1, .inr (1, [v12, v13, v14, v15, v16, .int 0, v17, v18]))] sz)) (va_A [(h0, .inr (10, [v0, v1, .ref h1, v2, v3, v4, v5, v6, v7, v8, v9, v10, v11])), (h1, .inr (1, [v12, v13, v14, v15, v16, .int 0, v17, v18]))] sz)) 0 0 (va_A [(h0, .inr (10, [v0, v1, .ref h1, v2, v3, v4, v5, v6, v7, v8, v9, v10, v11])), (h1, .inr (1, [v12, v13, v14, v15, v16, .int 0, v17, v18]))] sz) := by
  refine Met.ofW (cc := cX11_changeCell) (maxL := 6) (ret := (some .int)) (by decide) rfl ?_
  intro p e s m args below meth c s₁ B hml hv
  obtain ⟨rfl, hsz, hP, hK, hN, hD0⟩ := hv
  have hx := B.exec
  have hb := B.bytes
  have hr := B.returns
  have hts := atoms_spec (ws := u_X11_changeCell) B.pre
  have hown : s.vm.findClass RX11 = some m.cls := findClass_of_methodNamed B.named
  have hlocks := B.notSynchronized
  subst hsz
  have hD := hD0.self (sz := s.heap.size)
  generalize hAe : va_A [(h0, .inr (10, [v0, v1, .ref h1, v2, v3, v4, v5, v6, v7, v8, v9, v10, v11])), (h1, .inr (1, [v12, v13, v14, v15, v16, .int 0, v17, v18]))] s.heap.size = A at hD ⊢
  have hA : ∀ q : Nat, s.heap.size ≤ q → A q := fun q h => by rw [← hAe]; exact Or.inr h
  have hS : va_S A s.heap s.heap [] := va_S.rf
  have hP : va_P D vwCl [(h0, .inr (10, [v0, v1, .ref h1, v2, v3, v4, v5, v6, v7, v8, v9, v10, v11])), (h1, .inr (1, [v12, v13, v14, v15, v16, .int 0, v17, v18]))] s.heap := hP
  have hl := lv_entry ([.ref h0, .int p1, .int p2, .int 1, .int p4]) (n := 6) (Nat.le_of_ble_eq_true rfl)
  rw [lg_entry_eq]
  generalize (lg_sl ([.ref h0, .int p1, .int p2, .int 1, .int p4]) ++ List.replicate (6 - (lg_sl ([.ref h0, .int p1, .int p2, .int 1, .int p4])).length) Slot.unset).toArray = ls at hl ⊢
  have hl : lv_has ls 6 [(0, .ref h0), (1, .int p1), (2, .int p2), (3, .int 1), (4, .int p4)] := hl
  obtain ⟨H, hHe⟩ : ∃ H, s.heap = H := ⟨_, rfl⟩
  have hP : va_P D vwCl [(h0, .inr (10, [v0, v1, .ref h1, v2, v3, v4, v5, v6, v7, v8, v9, v10, v11])), (h1, .inr (1, [v12, v13, v14, v15, v16, .int 0, v17, v18]))] H := by rw [← hHe]; exact hP
  have hS : va_S A s.heap H [] := by rw [← hHe]; exact hS
  refine kn_heap hHe ?_
  refine lv_aload_n hx hb dX11_changeCell_0 rfl (lv_at hl 0 rfl) ?_
  refine va_get (D := D) (ci := 10) (v := .ref h1) (C := RX11) (T := TX11) (N := 13) hx hb hts inw_X11_changeCell_X11 hown hK hP 0 rfl rfl 2 (by decide) (hts (.fieldLink RX11 28 "EarTable" "grid" "LEarTable$Grid;") (by decide +kernel)) (fun _ h9 => h9) rfl dX11_changeCell_1 ?_
  refine lv_iload_n hx hb dX11_changeCell_4 rfl (lv_at hl 1 rfl) ?_
  refine lv_iload_n hx hb dX11_changeCell_5 rfl (lv_at hl 2 rfl) ?_
  have hPc := hP.sub (ws' := [(h1, .inr (1, [v12, v13, v14, v15, v16, .int 0, v17, v18]))]) [1] rfl
  have hDc := hD.sub (ws' := [(h1, .inr (1, [v12, v13, v14, v15, v16, .int 0, v17, v18]))]) [1] (by decide) rfl
  refine kn_calli (wr := [(h0, .inr (10, [v0, v1, .ref h1, v2, v3, v4, v5, v6, v7, v8, v9, v10, v11]))]) (cells' := 0) (slots' := 0) (va_runV (As := [.int p1, .int p2]) (rest := []) ⟨hx, hb, hml, hown, hts⟩ (c_X1_lineSpotOf l D cI cJ cZ cB H.size h1 v12 v13 v14 v15 v16 v17 v18 p1 p2) (cwV 2 hts (goodIn_app (goodIn_of _ (by decide +kernel)) gs_X11_changeCell__X1_lineSpotOf) rfl rfl rfl (by decide +kernel) ⟨(Nat.le_of_ble_eq_true rfl), (Nat.le_of_ble_eq_true rfl)⟩) (kp_V 0 1 rfl rfl hPc hK hN hDc) rfl rfl hl.1 rfl (lv_room (Nat.le_of_ble_eq_true rfl)) dX11_changeCell_6 ⟨(Nat.le_of_ble_eq_true rfl), (Nat.le_of_ble_eq_true rfl)⟩) hS hA hP hD [1] [0] rfl rfl (by decide) (by decide) (Nat.le_of_ble_eq_true rfl) (Nat.le_of_ble_eq_true rfl) (fun r_696 u H locs hw_697 hP hD hS => ?_)
  have hP : va_P D vwCl [(h0, .inr (10, [v0, v1, .ref h1, v2, v3, v4, v5, v6, v7, v8, v9, v10, v11])), (h1, .inr (1, [v12, v13, v14, v15, v16, .int 0, v17, v18]))] H := hP
  have hD : va_D A [(h0, .inr (10, [v0, v1, .ref h1, v2, v3, v4, v5, v6, v7, v8, v9, v10, v11])), (h1, .inr (1, [v12, v13, v14, v15, v16, .int 0, v17, v18]))] := hD
  subst hw_697
  refine lv_istore (lv' := [(5, .int (-1)), (0, .ref h0), (1, .int p1), (2, .int p2), (3, .int 1), (4, .int p4)]) hx hb dX11_changeCell_9 hl (by decide) rfl (fun ls hl => ?_)
  refine lv_iload hx hb dX11_changeCell_11 (lv_at hl 0 rfl) ?_
  refine lv_iconst (v := (-1)) hx hb dX11_changeCell_13 (by decide) ?_
  refine lv_icmp_eq (tgt := 29) hx hb dX11_changeCell_14 (by decide) (fun c_698 => ?_) (fun c_698 => ?_)
  · skip
    refine lv_iconst (v := (-1)) hx hb dX11_changeCell_29 (by decide) ?_
    have hP9 := hP.sub (ws' := [(h0, .inr (10, [v0, v1, .ref h1, v2, v3, v4, v5, v6, v7, v8, v9, v10, v11])), (h1, .inr (1, [v12, v13, v14, v15, v16, .int 0, v17, v18]))]) [0, 1] rfl
    have hD9 := hD.sub (ws' := [(h0, .inr (10, [v0, v1, .ref h1, v2, v3, v4, v5, v6, v7, v8, v9, v10, v11])), (h1, .inr (1, [v12, v13, v14, v15, v16, .int 0, v17, v18]))]) [0, 1] (by decide) rfl
    exact W.iret (v := (-1)) hx hb hr (fun t ht hW => ⟨⟨(-1), (), rfl, rfl, by rw [ht]; exact hP9, hD9⟩, hS.F ht⟩) hS.2.2 dX11_changeCell_30
  · skip
    exact absurd rfl c_698
def o_X11_set : List Cond := [.constant RX11 217 (-999999), .constant RX11 218 (999999), .methodLink RX11 219 yX11_changeCell, .instanceMethod yX11_changeCell, .selects RX11 yX11_changeCell yX11_changeCell, .initialized RX11]
def u_X11_set : List Cond := .code yX11_set cX11_set 4 (some .int) :: (o_X11_set ++ (u_X11_changeCell ++ ([] : List Cond)))
theorem gs_X11_set__X11_changeCell : GoodIn u_X11_set u_X11_changeCell := goodIn_sub (fun w h => List.mem_cons_of_mem _ (List.mem_append_right _ (List.mem_append_left _ h))) good_X11_changeCell
set_option maxRecDepth 20000 in
theorem good_X11_set : u_X11_set.all goodWord = true := by decide +kernel
set_option maxRecDepth 20000 in
theorem in_X11_set : ∀ w ∈ u_X11_set, w ∈ lw_tbl := ma_cons inc_X11_set (ma_app (ma_pos o_X11_set [754, 755, 756, 758, 26, 64] (by decide +kernel)) (ma_app in_X11_changeCell ma_nil))
set_option maxHeartbeats 4000000 in
set_option maxRecDepth 100000 in
theorem c_X11_set (l : Launch) (D : va_G) (cI cJ cZ cB : ClassId) (sz : Nat) (h0 : Nat) (h1 : Nat) (v0 : Value) (v1 : Value) (v2 : Value) (v3 : Value) (v4 : Value) (v5 : Value) (v6 : Value) (v7 : Value) (v8 : Value) (v9 : Value) (v10 : Value) (v11 : Value) (v12 : Value) (v13 : Value) (v14 : Value) (v15 : Value) (v16 : Value) (v17 : Value) (v18 : Value) (p1 : Int32) (p2 : Int32) (p3 : Int32) : Met l yX11_set u_X11_set ({ frames := 3, cells := 0, slots := 0, locals := 71 }) (va_Pc [.ref h0, .int p1, .int p2, .int p3] (kPre D cI cJ cZ cB [(h0, .inr (10, [v0, v1, .ref h1, v2, v3, v4, v5, v6, v7, v8, v9, v10, v11])), (h1, .inr (1, [v12, v13, v14, v15, v16, .int 0, v17, v18]))] sz)) (va_Qi (fun (r : Int32) (_ : Unit) => r = (-1)) (kB D (fun (u : Unit) => [(h0, .inr (10, [v0, v1, .ref h1, v2, v3, v4, v5, v6, v7, v8, v9, v10, v11])), (h1, .inr (1, [v12, v13, v14, v15, v16, .int 0, v17, v18]))]) (va_A [(h0, .inr (10, [v0, v1, .ref h1, v2, v3, v4, v5, v6, v7, v8, v9, v10, v11])), (h1, .inr (1, [v12, v13, v14, v15, v16, .int 0, v17, v18]))] sz)) (va_A [(h0, .inr (10, [v0, v1, .ref h1, v2, v3, v4, v5, v6, v7, v8, v9, v10, v11])), (h1, .inr (1, [v12, v13, v14, v15, v16, .int 0, v17, v18]))] sz)) 0 0 (va_A [(h0, .inr (10, [v0, v1, .ref h1, v2, v3, v4, v5, v6, v7, v8, v9, v10, v11])), (h1, .inr (1, [v12, v13, v14, v15, v16, .int 0, v17, v18]))] sz) := by
  refine Met.ofW (cc := cX11_set) (maxL := 4) (ret := (some .int)) (by decide) rfl ?_
  intro p e s m args below meth c s₁ B hml hv
  obtain ⟨rfl, hsz, hP, hK, hN, hD0⟩ := hv
  have hx := B.exec
  have hb := B.bytes
  have hr := B.returns
  have hts := atoms_spec (ws := u_X11_set) B.pre
  have hown : s.vm.findClass RX11 = some m.cls := findClass_of_methodNamed B.named
  have hlocks := B.notSynchronized
  subst hsz
  have hD := hD0.self (sz := s.heap.size)
  generalize hAe : va_A [(h0, .inr (10, [v0, v1, .ref h1, v2, v3, v4, v5, v6, v7, v8, v9, v10, v11])), (h1, .inr (1, [v12, v13, v14, v15, v16, .int 0, v17, v18]))] s.heap.size = A at hD ⊢
  have hA : ∀ q : Nat, s.heap.size ≤ q → A q := fun q h => by rw [← hAe]; exact Or.inr h
  have hS : va_S A s.heap s.heap [] := va_S.rf
  have hP : va_P D vwCl [(h0, .inr (10, [v0, v1, .ref h1, v2, v3, v4, v5, v6, v7, v8, v9, v10, v11])), (h1, .inr (1, [v12, v13, v14, v15, v16, .int 0, v17, v18]))] s.heap := hP
  have hl := lv_entry ([.ref h0, .int p1, .int p2, .int p3]) (n := 4) (Nat.le_of_ble_eq_true rfl)
  rw [lg_entry_eq]
  generalize (lg_sl ([.ref h0, .int p1, .int p2, .int p3]) ++ List.replicate (4 - (lg_sl ([.ref h0, .int p1, .int p2, .int p3])).length) Slot.unset).toArray = ls at hl ⊢
  have hl : lv_has ls 4 [(0, .ref h0), (1, .int p1), (2, .int p2), (3, .int p3)] := hl
  obtain ⟨H, hHe⟩ : ∃ H, s.heap = H := ⟨_, rfl⟩
  have hP : va_P D vwCl [(h0, .inr (10, [v0, v1, .ref h1, v2, v3, v4, v5, v6, v7, v8, v9, v10, v11])), (h1, .inr (1, [v12, v13, v14, v15, v16, .int 0, v17, v18]))] H := by rw [← hHe]; exact hP
  have hS : va_S A s.heap H [] := by rw [← hHe]; exact hS
  refine kn_heap hHe ?_
  refine lv_iload_n hx hb dX11_set_0 rfl (lv_at hl 3 rfl) ?_
  refine lv_ldc hx hb hown (hts (.constant RX11 217 (-999999)) (by decide +kernel)) dX11_set_1 ?_
  refine lv_icmp_lt (tgt := 12) hx hb dX11_set_3 (by decide) (fun c_694 => ?_) (fun c_694 => ?_)
  · skip
    refine lv_iconst (v := (-1)) hx hb dX11_set_12 (by decide) ?_
    have hP9 := hP.sub (ws' := [(h0, .inr (10, [v0, v1, .ref h1, v2, v3, v4, v5, v6, v7, v8, v9, v10, v11])), (h1, .inr (1, [v12, v13, v14, v15, v16, .int 0, v17, v18]))]) [0, 1] rfl
    have hD9 := hD.sub (ws' := [(h0, .inr (10, [v0, v1, .ref h1, v2, v3, v4, v5, v6, v7, v8, v9, v10, v11])), (h1, .inr (1, [v12, v13, v14, v15, v16, .int 0, v17, v18]))]) [0, 1] (by decide) rfl
    exact W.iret (v := (-1)) hx hb hr (fun t ht hW => ⟨⟨(-1), (), rfl, rfl, by rw [ht]; exact hP9, hD9⟩, hS.F ht⟩) hS.2.2 dX11_set_13
  · skip
    refine lv_iload_n hx hb dX11_set_6 rfl (lv_at hl 3 rfl) ?_
    refine lv_ldc hx hb hown (hts (.constant RX11 218 (999999)) (by decide +kernel)) dX11_set_7 ?_
    refine lv_icmp_le (tgt := 14) hx hb dX11_set_9 (by decide) (fun c_695 => ?_) (fun c_695 => ?_)
    · skip
      refine lv_aload_n hx hb dX11_set_14 rfl (lv_at hl 0 rfl) ?_
      refine lv_iload_n hx hb dX11_set_15 rfl (lv_at hl 1 rfl) ?_
      refine lv_iload_n hx hb dX11_set_16 rfl (lv_at hl 2 rfl) ?_
      refine lv_iconst (v := 1) hx hb dX11_set_17 (by decide) ?_
      refine lv_iload_n hx hb dX11_set_18 rfl (lv_at hl 3 rfl) ?_
      have hPc := hP.sub (ws' := [(h0, .inr (10, [v0, v1, .ref h1, v2, v3, v4, v5, v6, v7, v8, v9, v10, v11])), (h1, .inr (1, [v12, v13, v14, v15, v16, .int 0, v17, v18]))]) [0, 1] rfl
      have hDc := hD.sub (ws' := [(h0, .inr (10, [v0, v1, .ref h1, v2, v3, v4, v5, v6, v7, v8, v9, v10, v11])), (h1, .inr (1, [v12, v13, v14, v15, v16, .int 0, v17, v18]))]) [0, 1] (by decide) rfl
      refine kn_calli (wr := []) (cells' := 0) (slots' := 0) (va_runV (As := [.int p1, .int p2, .int 1, .int p3]) (rest := []) ⟨hx, hb, hml, hown, hts⟩ (c_X11_changeCell l D cI cJ cZ cB H.size h0 h1 v0 v1 v2 v3 v4 v5 v6 v7 v8 v9 v10 v11 v12 v13 v14 v15 v16 v17 v18 p1 p2 p3) (cwV 4 hts (goodIn_app (goodIn_of _ (by decide +kernel)) gs_X11_set__X11_changeCell) rfl rfl rfl (by decide +kernel) ⟨(Nat.le_of_ble_eq_true rfl), (Nat.le_of_ble_eq_true rfl)⟩) (kp_V 0 10 rfl rfl hPc hK hN hDc) rfl rfl hl.1 rfl (lv_room (Nat.le_of_ble_eq_true rfl)) dX11_set_19 ⟨(Nat.le_of_ble_eq_true rfl), (Nat.le_of_ble_eq_true rfl)⟩) hS hA hP hD [0, 1] [] rfl rfl (by decide) (by decide) (Nat.le_of_ble_eq_true rfl) (Nat.le_of_ble_eq_true rfl) (fun r_696 u H locs hw_697 hP hD hS => ?_)
      have hP : va_P D vwCl [(h0, .inr (10, [v0, v1, .ref h1, v2, v3, v4, v5, v6, v7, v8, v9, v10, v11])), (h1, .inr (1, [v12, v13, v14, v15, v16, .int 0, v17, v18]))] H := hP
      have hD : va_D A [(h0, .inr (10, [v0, v1, .ref h1, v2, v3, v4, v5, v6, v7, v8, v9, v10, v11])), (h1, .inr (1, [v12, v13, v14, v15, v16, .int 0, v17, v18]))] := hD
      subst hw_697
      have hP9 := hP.sub (ws' := [(h0, .inr (10, [v0, v1, .ref h1, v2, v3, v4, v5, v6, v7, v8, v9, v10, v11])), (h1, .inr (1, [v12, v13, v14, v15, v16, .int 0, v17, v18]))]) [0, 1] rfl
      have hD9 := hD.sub (ws' := [(h0, .inr (10, [v0, v1, .ref h1, v2, v3, v4, v5, v6, v7, v8, v9, v10, v11])), (h1, .inr (1, [v12, v13, v14, v15, v16, .int 0, v17, v18]))]) [0, 1] (by decide) rfl
      exact W.iret (v := (-1)) hx hb hr (fun t ht hW => ⟨⟨(-1), (), rfl, rfl, by rw [ht]; exact hP9, hD9⟩, hS.F ht⟩) hS.2.2 dX11_set_22
    · skip
      refine lv_iconst (v := (-1)) hx hb dX11_set_12 (by decide) ?_
      have hP9 := hP.sub (ws' := [(h0, .inr (10, [v0, v1, .ref h1, v2, v3, v4, v5, v6, v7, v8, v9, v10, v11])), (h1, .inr (1, [v12, v13, v14, v15, v16, .int 0, v17, v18]))]) [0, 1] rfl
      have hD9 := hD.sub (ws' := [(h0, .inr (10, [v0, v1, .ref h1, v2, v3, v4, v5, v6, v7, v8, v9, v10, v11])), (h1, .inr (1, [v12, v13, v14, v15, v16, .int 0, v17, v18]))]) [0, 1] (by decide) rfl
      exact W.iret (v := (-1)) hx hb hr (fun t ht hW => ⟨⟨(-1), (), rfl, rfl, by rw [ht]; exact hP9, hD9⟩, hS.F ht⟩) hS.2.2 dX11_set_13
def o_X12_isLine : List Cond := [.fieldLink RX12 74 "EarTableModel" "lines" "[I", .fieldLink RX12 64 "EarTableModel" "bank" "I"]
def u_X12_isLine : List Cond := .code yX12_isLine cX12_isLine 2 (some .boolean) :: (o_X12_isLine ++ (wsX120 ++ ([] : List Cond)))
theorem inw_X12_isLine_X12 : ∀ w ∈ wsX120, w ∈ u_X12_isLine := fun w h => List.mem_cons_of_mem _ (List.mem_append_right _ (List.mem_append_left _ h))
set_option maxRecDepth 20000 in
theorem good_X12_isLine : u_X12_isLine.all goodWord = true := by decide +kernel
set_option maxRecDepth 20000 in
theorem in_X12_isLine : ∀ w ∈ u_X12_isLine, w ∈ lw_tbl := ma_cons inc_X12_isLine (ma_app (ma_pos o_X12_isLine [992, 996] (by decide +kernel)) (ma_app inb_X12 ma_nil))
set_option maxHeartbeats 4000000 in
set_option maxRecDepth 100000 in
theorem c_X12_isLine (l : Launch) (D : va_G) (cI cJ cZ cB : ClassId) (sz : Nat) (h0 : Nat) (h1 : Nat) (v0 : Value) (v1 : Value) (v2 : Value) (v3 : Value) (v4 : Value) (v5 : Value) (v6 : Value) (v7 : Value) (v8 : Value) (v9 : Value) (v10 : Value) (v11 : Value) (v12 : Value) (v13 : Value) (v14 : Value) (v15 : Value) (v16 : Value) (v17 : Value) (v18 : Value) (v19 : Value) (v20 : Value) (v21 : Value) (v22 : Value) (v23 : Value) (v24 : Value) (v25 : Value) (v26 : Value) (v27 : Value) (v28 : Value) (v29 : Value) (v30 : Value) (v31 : Value) (v32 : Value) (v33 : Value) (v34 : Value) (v35 : Value) (v36 : Value) (v37 : Value) (v38 : Value) (v39 : Value) (v40 : Value) (v41 : Value) (v42 : Value) (v43 : Value) (v44 : Value) (v45 : Value) (v46 : Value) (v47 : Value) (p1 : Int32) : Met l yX12_isLine u_X12_isLine ({ frames := 0, cells := 0, slots := 0, locals := 0 }) (va_Pc [.ref h0, .int p1] (kPre D cI cJ cZ cB [(h0, .inr (11, [v0, v1, v2, v3, v4, v5, v6, v7, v8, v9, v10, v11, v12, v13, v14, v15, .ref h1, v16, v17, v18, .int 0, v19, v20, v21, v22, v23, v24, v25, v26, v27, v28, v29, v30, v31, v32, v33, v34, v35, v36, v37, v38, v39, v40, v41, v42, v43, v44, v45, v46, v47])), (h1, .inl (cI, 2, .inl (fun _ => 0)))] sz)) (va_Qi (fun (r : Int32) (_ : Unit) => r = 0) (kB D (fun (u : Unit) => [(h0, .inr (11, [v0, v1, v2, v3, v4, v5, v6, v7, v8, v9, v10, v11, v12, v13, v14, v15, .ref h1, v16, v17, v18, .int 0, v19, v20, v21, v22, v23, v24, v25, v26, v27, v28, v29, v30, v31, v32, v33, v34, v35, v36, v37, v38, v39, v40, v41, v42, v43, v44, v45, v46, v47])), (h1, .inl (cI, 2, .inl (fun _ => 0)))]) (va_A [(h0, .inr (11, [v0, v1, v2, v3, v4, v5, v6, v7, v8, v9, v10, v11, v12, v13, v14, v15, .ref h1, v16, v17, v18, .int 0, v19, v20, v21, v22, v23, v24, v25, v26, v27, v28, v29, v30, v31, v32, v33, v34, v35, v36, v37, v38, v39, v40, v41, v42, v43, v44, v45, v46, v47])), (h1, .inl (cI, 2, .inl (fun _ => 0)))] sz)) (va_A [(h0, .inr (11, [v0, v1, v2, v3, v4, v5, v6, v7, v8, v9, v10, v11, v12, v13, v14, v15, .ref h1, v16, v17, v18, .int 0, v19, v20, v21, v22, v23, v24, v25, v26, v27, v28, v29, v30, v31, v32, v33, v34, v35, v36, v37, v38, v39, v40, v41, v42, v43, v44, v45, v46, v47])), (h1, .inl (cI, 2, .inl (fun _ => 0)))] sz)) 0 0 (va_A [(h0, .inr (11, [v0, v1, v2, v3, v4, v5, v6, v7, v8, v9, v10, v11, v12, v13, v14, v15, .ref h1, v16, v17, v18, .int 0, v19, v20, v21, v22, v23, v24, v25, v26, v27, v28, v29, v30, v31, v32, v33, v34, v35, v36, v37, v38, v39, v40, v41, v42, v43, v44, v45, v46, v47])), (h1, .inl (cI, 2, .inl (fun _ => 0)))] sz) := by
  refine Met.ofW (cc := cX12_isLine) (maxL := 2) (ret := (some .boolean)) (by decide) rfl ?_
  intro p e s m args below meth c s₁ B hml hv
  obtain ⟨rfl, hsz, hP, hK, hN, hD0⟩ := hv
  have hx := B.exec
  have hb := B.bytes
  have hr := B.returns
  have hts := atoms_spec (ws := u_X12_isLine) B.pre
  have hown : s.vm.findClass RX12 = some m.cls := findClass_of_methodNamed B.named
  have hlocks := B.notSynchronized
  subst hsz
  have hD := hD0.self (sz := s.heap.size)
  generalize hAe : va_A [(h0, .inr (11, [v0, v1, v2, v3, v4, v5, v6, v7, v8, v9, v10, v11, v12, v13, v14, v15, .ref h1, v16, v17, v18, .int 0, v19, v20, v21, v22, v23, v24, v25, v26, v27, v28, v29, v30, v31, v32, v33, v34, v35, v36, v37, v38, v39, v40, v41, v42, v43, v44, v45, v46, v47])), (h1, .inl (cI, 2, .inl (fun _ => 0)))] s.heap.size = A at hD ⊢
  have hA : ∀ q : Nat, s.heap.size ≤ q → A q := fun q h => by rw [← hAe]; exact Or.inr h
  have hS : va_S A s.heap s.heap [] := va_S.rf
  have hP : va_P D vwCl [(h0, .inr (11, [v0, v1, v2, v3, v4, v5, v6, v7, v8, v9, v10, v11, v12, v13, v14, v15, .ref h1, v16, v17, v18, .int 0, v19, v20, v21, v22, v23, v24, v25, v26, v27, v28, v29, v30, v31, v32, v33, v34, v35, v36, v37, v38, v39, v40, v41, v42, v43, v44, v45, v46, v47])), (h1, .inl (cI, 2, .inl (fun _ => 0)))] s.heap := hP
  have hl := lv_entry ([.ref h0, .int p1]) (n := 2) (Nat.le_of_ble_eq_true rfl)
  rw [lg_entry_eq]
  generalize (lg_sl ([.ref h0, .int p1]) ++ List.replicate (2 - (lg_sl ([.ref h0, .int p1])).length) Slot.unset).toArray = ls at hl ⊢
  have hl : lv_has ls 2 [(0, .ref h0), (1, .int p1)] := hl
  obtain ⟨H, hHe⟩ : ∃ H, s.heap = H := ⟨_, rfl⟩
  have hP : va_P D vwCl [(h0, .inr (11, [v0, v1, v2, v3, v4, v5, v6, v7, v8, v9, v10, v11, v12, v13, v14, v15, .ref h1, v16, v17, v18, .int 0, v19, v20, v21, v22, v23, v24, v25, v26, v27, v28, v29, v30, v31, v32, v33, v34, v35, v36, v37, v38, v39, v40, v41, v42, v43, v44, v45, v46, v47])), (h1, .inl (cI, 2, .inl (fun _ => 0)))] H := by rw [← hHe]; exact hP
  have hS : va_S A s.heap H [] := by rw [← hHe]; exact hS
  refine kn_heap hHe ?_
  refine lv_iload_n hx hb dX12_isLine_0 rfl (lv_at hl 1 rfl) ?_
  refine lv_if_lt (tgt := 21) hx hb dX12_isLine_1 (by decide) (fun c_702 => ?_) (fun c_702 => ?_)
  · skip
    refine lv_iconst (v := 0) hx hb dX12_isLine_21 (by decide) ?_
    have hP9 := hP.sub (ws' := [(h0, .inr (11, [v0, v1, v2, v3, v4, v5, v6, v7, v8, v9, v10, v11, v12, v13, v14, v15, .ref h1, v16, v17, v18, .int 0, v19, v20, v21, v22, v23, v24, v25, v26, v27, v28, v29, v30, v31, v32, v33, v34, v35, v36, v37, v38, v39, v40, v41, v42, v43, v44, v45, v46, v47])), (h1, .inl (cI, 2, .inl (fun _ => 0)))]) [0, 1] rfl
    have hD9 := hD.sub (ws' := [(h0, .inr (11, [v0, v1, v2, v3, v4, v5, v6, v7, v8, v9, v10, v11, v12, v13, v14, v15, .ref h1, v16, v17, v18, .int 0, v19, v20, v21, v22, v23, v24, v25, v26, v27, v28, v29, v30, v31, v32, v33, v34, v35, v36, v37, v38, v39, v40, v41, v42, v43, v44, v45, v46, v47])), (h1, .inl (cI, 2, .inl (fun _ => 0)))]) [0, 1] (by decide) rfl
    exact W.zret (v := 0) hx hb hr rfl (fun t ht hW => ⟨⟨0, (), rfl, rfl, by rw [ht]; exact hP9, hD9⟩, hS.F ht⟩) hS.2.2 dX12_isLine_22
  · skip
    refine lv_iload_n hx hb dX12_isLine_4 rfl (lv_at hl 1 rfl) ?_
    refine lv_aload_n hx hb dX12_isLine_5 rfl (lv_at hl 0 rfl) ?_
    refine va_get (D := D) (ci := 11) (v := .ref h1) (C := RX12) (T := TX12) (N := 50) hx hb hts inw_X12_isLine_X12 hown hK hP 0 rfl rfl 16 (by decide) (hts (.fieldLink RX12 74 "EarTableModel" "lines" "[I") (by decide +kernel)) (fun _ h9 => h9) rfl dX12_isLine_6 ?_
    refine lv_aload_n hx hb dX12_isLine_9 rfl (lv_at hl 0 rfl) ?_
    refine va_get (D := D) (ci := 11) (v := .int 0) (C := RX12) (T := TX12) (N := 50) hx hb hts inw_X12_isLine_X12 hown hK hP 0 rfl rfl 20 (by decide) (hts (.fieldLink RX12 64 "EarTableModel" "bank" "I") (by decide +kernel)) (fun _ h9 => h9) rfl dX12_isLine_10 ?_
    refine va_iald hx hb hK hP 1 0 rfl rfl (kn_in (by decide)) dX12_isLine_13 ?_
    refine kn_top (y := 0) (by decide +kernel) ?_
    refine lv_icmp_ge (tgt := 21) hx hb dX12_isLine_14 (by decide) (fun c_703 => ?_) (fun c_703 => ?_)
    · skip
      refine lv_iconst (v := 0) hx hb dX12_isLine_21 (by decide) ?_
      have hP9 := hP.sub (ws' := [(h0, .inr (11, [v0, v1, v2, v3, v4, v5, v6, v7, v8, v9, v10, v11, v12, v13, v14, v15, .ref h1, v16, v17, v18, .int 0, v19, v20, v21, v22, v23, v24, v25, v26, v27, v28, v29, v30, v31, v32, v33, v34, v35, v36, v37, v38, v39, v40, v41, v42, v43, v44, v45, v46, v47])), (h1, .inl (cI, 2, .inl (fun _ => 0)))]) [0, 1] rfl
      have hD9 := hD.sub (ws' := [(h0, .inr (11, [v0, v1, v2, v3, v4, v5, v6, v7, v8, v9, v10, v11, v12, v13, v14, v15, .ref h1, v16, v17, v18, .int 0, v19, v20, v21, v22, v23, v24, v25, v26, v27, v28, v29, v30, v31, v32, v33, v34, v35, v36, v37, v38, v39, v40, v41, v42, v43, v44, v45, v46, v47])), (h1, .inl (cI, 2, .inl (fun _ => 0)))]) [0, 1] (by decide) rfl
      exact W.zret (v := 0) hx hb hr rfl (fun t ht hW => ⟨⟨0, (), rfl, rfl, by rw [ht]; exact hP9, hD9⟩, hS.F ht⟩) hS.2.2 dX12_isLine_22
    · skip
      exfalso
      simp only [Int32.lt_iff_toInt_lt, Int32.le_iff_toInt_le] at c_702 c_703
      have k0 : (0 : Int32).toInt = 0 := by decide
      omega
def o_X12_change : List Cond := [.methodLink RX12 156 yX12_isLine, .instanceMethod yX12_isLine, .selects RX12 yX12_isLine yX12_isLine, .initialized RX12]
def u_X12_change : List Cond := .code yX12_change cX12_change 6 (some .int) :: (o_X12_change ++ (u_X12_isLine ++ ([] : List Cond)))
theorem gs_X12_change__X12_isLine : GoodIn u_X12_change u_X12_isLine := goodIn_sub (fun w h => List.mem_cons_of_mem _ (List.mem_append_right _ (List.mem_append_left _ h))) good_X12_isLine
set_option maxRecDepth 20000 in
theorem good_X12_change : u_X12_change.all goodWord = true := by decide +kernel
set_option maxRecDepth 20000 in
theorem in_X12_change : ∀ w ∈ u_X12_change, w ∈ lw_tbl := ma_cons inc_X12_change (ma_app (ma_pos o_X12_change [918, 920, 41, 76] (by decide +kernel)) (ma_app in_X12_isLine ma_nil))
set_option maxHeartbeats 4000000 in
set_option maxRecDepth 100000 in
theorem c_X12_change (l : Launch) (D : va_G) (cI cJ cZ cB : ClassId) (sz : Nat) (h0 : Nat) (h1 : Nat) (v0 : Value) (v1 : Value) (v2 : Value) (v3 : Value) (v4 : Value) (v5 : Value) (v6 : Value) (v7 : Value) (v8 : Value) (v9 : Value) (v10 : Value) (v11 : Value) (v12 : Value) (v13 : Value) (v14 : Value) (v15 : Value) (v16 : Value) (v17 : Value) (v18 : Value) (v19 : Value) (v20 : Value) (v21 : Value) (v22 : Value) (v23 : Value) (v24 : Value) (v25 : Value) (v26 : Value) (v27 : Value) (v28 : Value) (v29 : Value) (v30 : Value) (v31 : Value) (v32 : Value) (v33 : Value) (v34 : Value) (v35 : Value) (v36 : Value) (v37 : Value) (v38 : Value) (v39 : Value) (v40 : Value) (v41 : Value) (v42 : Value) (v43 : Value) (v44 : Value) (v45 : Value) (v46 : Value) (v47 : Value) (p1 : Int32) (p2 : Int32) (p4 : Int32) : Met l yX12_change u_X12_change ({ frames := 1, cells := 0, slots := 0, locals := 21 }) (va_Pc [.ref h0, .int p1, .int p2, .int 1, .int p4] (kPre D cI cJ cZ cB [(h0, .inr (11, [v0, v1, v2, v3, v4, v5, v6, v7, v8, v9, v10, v11, v12, v13, v14, v15, .ref h1, v16, v17, v18, .int 0, v19, v20, v21, v22, v23, v24, v25, v26, v27, v28, v29, v30, v31, v32, v33, v34, v35, v36, v37, v38, v39, v40, v41, v42, v43, v44, v45, v46, v47])), (h1, .inl (cI, 2, .inl (fun _ => 0)))] sz)) (va_Qi (fun (r : Int32) (_ : Unit) => r = (-1)) (kB D (fun (u : Unit) => [(h0, .inr (11, [v0, v1, v2, v3, v4, v5, v6, v7, v8, v9, v10, v11, v12, v13, v14, v15, .ref h1, v16, v17, v18, .int 0, v19, v20, v21, v22, v23, v24, v25, v26, v27, v28, v29, v30, v31, v32, v33, v34, v35, v36, v37, v38, v39, v40, v41, v42, v43, v44, v45, v46, v47])), (h1, .inl (cI, 2, .inl (fun _ => 0)))]) (va_A [(h0, .inr (11, [v0, v1, v2, v3, v4, v5, v6, v7, v8, v9, v10, v11, v12, v13, v14, v15, .ref h1, v16, v17, v18, .int 0, v19, v20, v21, v22, v23, v24, v25, v26, v27, v28, v29, v30, v31, v32, v33, v34, v35, v36, v37, v38, v39, v40, v41, v42, v43, v44, v45, v46, v47])), (h1, .inl (cI, 2, .inl (fun _ => 0)))] sz)) (va_A [(h0, .inr (11, [v0, v1, v2, v3, v4, v5, v6, v7, v8, v9, v10, v11, v12, v13, v14, v15, .ref h1, v16, v17, v18, .int 0, v19, v20, v21, v22, v23, v24, v25, v26, v27, v28, v29, v30, v31, v32, v33, v34, v35, v36, v37, v38, v39, v40, v41, v42, v43, v44, v45, v46, v47])), (h1, .inl (cI, 2, .inl (fun _ => 0)))] sz)) 0 0 (va_A [(h0, .inr (11, [v0, v1, v2, v3, v4, v5, v6, v7, v8, v9, v10, v11, v12, v13, v14, v15, .ref h1, v16, v17, v18, .int 0, v19, v20, v21, v22, v23, v24, v25, v26, v27, v28, v29, v30, v31, v32, v33, v34, v35, v36, v37, v38, v39, v40, v41, v42, v43, v44, v45, v46, v47])), (h1, .inl (cI, 2, .inl (fun _ => 0)))] sz) := by
  refine Met.ofW (cc := cX12_change) (maxL := 6) (ret := (some .int)) (by decide) rfl ?_
  intro p e s m args below meth c s₁ B hml hv
  obtain ⟨rfl, hsz, hP, hK, hN, hD0⟩ := hv
  have hx := B.exec
  have hb := B.bytes
  have hr := B.returns
  have hts := atoms_spec (ws := u_X12_change) B.pre
  have hown : s.vm.findClass RX12 = some m.cls := findClass_of_methodNamed B.named
  have hlocks := B.notSynchronized
  subst hsz
  have hD := hD0.self (sz := s.heap.size)
  generalize hAe : va_A [(h0, .inr (11, [v0, v1, v2, v3, v4, v5, v6, v7, v8, v9, v10, v11, v12, v13, v14, v15, .ref h1, v16, v17, v18, .int 0, v19, v20, v21, v22, v23, v24, v25, v26, v27, v28, v29, v30, v31, v32, v33, v34, v35, v36, v37, v38, v39, v40, v41, v42, v43, v44, v45, v46, v47])), (h1, .inl (cI, 2, .inl (fun _ => 0)))] s.heap.size = A at hD ⊢
  have hA : ∀ q : Nat, s.heap.size ≤ q → A q := fun q h => by rw [← hAe]; exact Or.inr h
  have hS : va_S A s.heap s.heap [] := va_S.rf
  have hP : va_P D vwCl [(h0, .inr (11, [v0, v1, v2, v3, v4, v5, v6, v7, v8, v9, v10, v11, v12, v13, v14, v15, .ref h1, v16, v17, v18, .int 0, v19, v20, v21, v22, v23, v24, v25, v26, v27, v28, v29, v30, v31, v32, v33, v34, v35, v36, v37, v38, v39, v40, v41, v42, v43, v44, v45, v46, v47])), (h1, .inl (cI, 2, .inl (fun _ => 0)))] s.heap := hP
  have hl := lv_entry ([.ref h0, .int p1, .int p2, .int 1, .int p4]) (n := 6) (Nat.le_of_ble_eq_true rfl)
  rw [lg_entry_eq]
  generalize (lg_sl ([.ref h0, .int p1, .int p2, .int 1, .int p4]) ++ List.replicate (6 - (lg_sl ([.ref h0, .int p1, .int p2, .int 1, .int p4])).length) Slot.unset).toArray = ls at hl ⊢
  have hl : lv_has ls 6 [(0, .ref h0), (1, .int p1), (2, .int p2), (3, .int 1), (4, .int p4)] := hl
  obtain ⟨H, hHe⟩ : ∃ H, s.heap = H := ⟨_, rfl⟩
  have hP : va_P D vwCl [(h0, .inr (11, [v0, v1, v2, v3, v4, v5, v6, v7, v8, v9, v10, v11, v12, v13, v14, v15, .ref h1, v16, v17, v18, .int 0, v19, v20, v21, v22, v23, v24, v25, v26, v27, v28, v29, v30, v31, v32, v33, v34, v35, v36, v37, v38, v39, v40, v41, v42, v43, v44, v45, v46, v47])), (h1, .inl (cI, 2, .inl (fun _ => 0)))] H := by rw [← hHe]; exact hP
  have hS : va_S A s.heap H [] := by rw [← hHe]; exact hS
  refine kn_heap hHe ?_
  refine lv_aload_n hx hb dX12_change_0 rfl (lv_at hl 0 rfl) ?_
  refine lv_iload_n hx hb dX12_change_1 rfl (lv_at hl 1 rfl) ?_
  have hPc := hP.sub (ws' := [(h0, .inr (11, [v0, v1, v2, v3, v4, v5, v6, v7, v8, v9, v10, v11, v12, v13, v14, v15, .ref h1, v16, v17, v18, .int 0, v19, v20, v21, v22, v23, v24, v25, v26, v27, v28, v29, v30, v31, v32, v33, v34, v35, v36, v37, v38, v39, v40, v41, v42, v43, v44, v45, v46, v47])), (h1, .inl (cI, 2, .inl (fun _ => 0)))]) [0, 1] rfl
  have hDc := hD.sub (ws' := [(h0, .inr (11, [v0, v1, v2, v3, v4, v5, v6, v7, v8, v9, v10, v11, v12, v13, v14, v15, .ref h1, v16, v17, v18, .int 0, v19, v20, v21, v22, v23, v24, v25, v26, v27, v28, v29, v30, v31, v32, v33, v34, v35, v36, v37, v38, v39, v40, v41, v42, v43, v44, v45, v46, v47])), (h1, .inl (cI, 2, .inl (fun _ => 0)))]) [0, 1] (by decide) rfl
  refine kn_calli (wr := []) (cells' := 0) (slots' := 0) (va_runV (As := [.int p1]) (rest := []) ⟨hx, hb, hml, hown, hts⟩ (c_X12_isLine l D cI cJ cZ cB H.size h0 h1 v0 v1 v2 v3 v4 v5 v6 v7 v8 v9 v10 v11 v12 v13 v14 v15 v16 v17 v18 v19 v20 v21 v22 v23 v24 v25 v26 v27 v28 v29 v30 v31 v32 v33 v34 v35 v36 v37 v38 v39 v40 v41 v42 v43 v44 v45 v46 v47 p1) (cwV 1 hts (goodIn_app (goodIn_of _ (by decide +kernel)) gs_X12_change__X12_isLine) rfl rfl rfl (by decide +kernel) ⟨(Nat.le_of_ble_eq_true rfl), (Nat.le_of_ble_eq_true rfl)⟩) (kp_V 0 11 rfl rfl hPc hK hN hDc) rfl rfl hl.1 rfl (lv_room (Nat.le_of_ble_eq_true rfl)) dX12_change_2 ⟨(Nat.le_of_ble_eq_true rfl), (Nat.le_of_ble_eq_true rfl)⟩) hS hA hP hD [0, 1] [] rfl rfl (by decide) (by decide) (Nat.le_of_ble_eq_true rfl) (Nat.le_of_ble_eq_true rfl) (fun r_702 u H locs hw_703 hP hD hS => ?_)
  have hP : va_P D vwCl [(h0, .inr (11, [v0, v1, v2, v3, v4, v5, v6, v7, v8, v9, v10, v11, v12, v13, v14, v15, .ref h1, v16, v17, v18, .int 0, v19, v20, v21, v22, v23, v24, v25, v26, v27, v28, v29, v30, v31, v32, v33, v34, v35, v36, v37, v38, v39, v40, v41, v42, v43, v44, v45, v46, v47])), (h1, .inl (cI, 2, .inl (fun _ => 0)))] H := hP
  have hD : va_D A [(h0, .inr (11, [v0, v1, v2, v3, v4, v5, v6, v7, v8, v9, v10, v11, v12, v13, v14, v15, .ref h1, v16, v17, v18, .int 0, v19, v20, v21, v22, v23, v24, v25, v26, v27, v28, v29, v30, v31, v32, v33, v34, v35, v36, v37, v38, v39, v40, v41, v42, v43, v44, v45, v46, v47])), (h1, .inl (cI, 2, .inl (fun _ => 0)))] := hD
  subst hw_703
  refine lv_if_eq (tgt := 25) hx hb dX12_change_5 (by decide) (fun c_704 => ?_) (fun c_704 => ?_)
  · skip
    refine lv_iconst (v := (-1)) hx hb dX12_change_25 (by decide) ?_
    have hP9 := hP.sub (ws' := [(h0, .inr (11, [v0, v1, v2, v3, v4, v5, v6, v7, v8, v9, v10, v11, v12, v13, v14, v15, .ref h1, v16, v17, v18, .int 0, v19, v20, v21, v22, v23, v24, v25, v26, v27, v28, v29, v30, v31, v32, v33, v34, v35, v36, v37, v38, v39, v40, v41, v42, v43, v44, v45, v46, v47])), (h1, .inl (cI, 2, .inl (fun _ => 0)))]) [0, 1] rfl
    have hD9 := hD.sub (ws' := [(h0, .inr (11, [v0, v1, v2, v3, v4, v5, v6, v7, v8, v9, v10, v11, v12, v13, v14, v15, .ref h1, v16, v17, v18, .int 0, v19, v20, v21, v22, v23, v24, v25, v26, v27, v28, v29, v30, v31, v32, v33, v34, v35, v36, v37, v38, v39, v40, v41, v42, v43, v44, v45, v46, v47])), (h1, .inl (cI, 2, .inl (fun _ => 0)))]) [0, 1] (by decide) rfl
    exact W.iret (v := (-1)) hx hb hr (fun t ht hW => ⟨⟨(-1), (), rfl, rfl, by rw [ht]; exact hP9, hD9⟩, hS.F ht⟩) hS.2.2 dX12_change_26
  · skip
    exact absurd rfl c_704
