def o_X12_isMark : List Cond := []
def u_X12_isMark : List Cond := .code yX12_isMark cX12_isMark 1 (some .boolean) :: (o_X12_isMark ++ ([] : List Cond))
set_option maxRecDepth 20000 in
theorem good_X12_isMark : u_X12_isMark.all goodWord = true := by decide +kernel
set_option maxRecDepth 20000 in
theorem in_X12_isMark : ∀ w ∈ u_X12_isMark, w ∈ lw_tbl := ma_cons inc_X12_isMark (ma_app (ma_pos o_X12_isMark [] (by decide +kernel)) ma_nil)
set_option maxHeartbeats 4000000 in
set_option maxRecDepth 100000 in
theorem c_X12_isMark (l : Launch) (D : va_G) (cI cJ cZ cB : ClassId) (sz : Nat) (p0 : Int32) : Met l yX12_isMark u_X12_isMark ({ frames := 0, cells := 0, slots := 0, locals := 0 }) (va_Pc [.int p0] (kPre D cI cJ cZ cB [] sz)) (va_Qi (fun (r : Int32) (_ : Unit) => r = 0 ∨ vp_in p0 5) (kB D (fun (u : Unit) => []) (va_A [] sz)) (va_A [] sz)) 0 0 (va_A [] sz) := by
  refine Met.ofW (cc := cX12_isMark) (maxL := 1) (ret := (some .boolean)) (by decide) rfl ?_
  intro p e s m args below meth c s₁ B hml hv
  obtain ⟨rfl, hsz, hP, hK, hN, hD0⟩ := hv
  have hx := B.exec
  have hb := B.bytes
  have hr := B.returns
  have hts := atoms_spec (ws := u_X12_isMark) B.pre
  have hown : s.vm.findClass RX12 = some m.cls := findClass_of_methodNamed B.named
  have hlocks := B.notSynchronized
  subst hsz
  have hD := hD0.self (sz := s.heap.size)
  generalize hAe : va_A [] s.heap.size = A at hD ⊢
  have hA : ∀ q : Nat, s.heap.size ≤ q → A q := fun q h => by rw [← hAe]; exact Or.inr h
  have hS : va_S A s.heap s.heap [] := va_S.rf
  have hP : va_P D vwCl [] s.heap := hP
  have hl := lv_entry ([.int p0]) (n := 1) (Nat.le_of_ble_eq_true rfl)
  rw [lg_entry_eq]
  generalize (lg_sl ([.int p0]) ++ List.replicate (1 - (lg_sl ([.int p0])).length) Slot.unset).toArray = ls at hl ⊢
  have hl : lv_has ls 1 [(0, .int p0)] := hl
  obtain ⟨H, hHe⟩ : ∃ H, s.heap = H := ⟨_, rfl⟩
  have hP : va_P D vwCl [] H := by rw [← hHe]; exact hP
  have hS : va_S A s.heap H [] := by rw [← hHe]; exact hS
  refine kn_heap hHe ?_
  refine lv_iload_n hx hb dX12_isMark_0 rfl (lv_at hl 0 rfl) ?_
  refine lv_if_lt (tgt := 13) hx hb dX12_isMark_1 (by decide) (fun c_647 => ?_) (fun c_647 => ?_)
  · skip
    refine lv_iconst (v := 0) hx hb dX12_isMark_13 (by decide) ?_
    have hP9 := hP.sub (ws' := []) [] rfl
    have hD9 := hD.sub (ws' := []) [] (by decide) rfl
    exact W.zret (v := 0) hx hb hr rfl (fun t ht hW => ⟨⟨0, (), rfl, Or.inl rfl, by rw [ht]; exact hP9, hD9⟩, hS.F ht⟩) hS.2.2 dX12_isMark_14
  · skip
    refine lv_iload_n hx hb dX12_isMark_4 rfl (lv_at hl 0 rfl) ?_
    refine lv_iconst (v := 5) hx hb dX12_isMark_5 (by decide) ?_
    refine lv_icmp_ge (tgt := 13) hx hb dX12_isMark_6 (by decide) (fun c_648 => ?_) (fun c_648 => ?_)
    · skip
      refine lv_iconst (v := 0) hx hb dX12_isMark_13 (by decide) ?_
      have hP9 := hP.sub (ws' := []) [] rfl
      have hD9 := hD.sub (ws' := []) [] (by decide) rfl
      exact W.zret (v := 0) hx hb hr rfl (fun t ht hW => ⟨⟨0, (), rfl, Or.inl rfl, by rw [ht]; exact hP9, hD9⟩, hS.F ht⟩) hS.2.2 dX12_isMark_14
    · skip
      refine lv_iconst (v := 1) hx hb dX12_isMark_9 (by decide) ?_
      refine lv_goto (tgt := 14) hx hb dX12_isMark_10 (by decide) ?_
      have hP9 := hP.sub (ws' := []) [] rfl
      have hD9 := hD.sub (ws' := []) [] (by decide) rfl
      exact W.zret (v := 1) hx hb hr rfl (fun t ht hW => ⟨⟨1, (), rfl, Or.inr (kn_in2 c_647 c_648 (by decide)), by rw [ht]; exact hP9, hD9⟩, hS.F ht⟩) hS.2.2 dX12_isMark_14
def o_X12_mark : List Cond := [.methodLink RX12 278 yX12_isMark, .static yX12_isMark, .initialized RX12, .fieldLink RX12 116 "EarTableModel" "placeLine" "I"]
def u_X12_mark : List Cond := .code yX12_mark cX12_mark 2 (some .boolean) :: (o_X12_mark ++ (u_X12_isMark ++ (wsX120 ++ ([] : List Cond))))
theorem gs_X12_mark__X12_isMark : GoodIn u_X12_mark u_X12_isMark := goodIn_sub (fun w h => List.mem_cons_of_mem _ (List.mem_append_right _ (List.mem_append_left _ h))) good_X12_isMark
theorem inw_X12_mark_X12 : ∀ w ∈ wsX120, w ∈ u_X12_mark := fun w h => List.mem_cons_of_mem _ (List.mem_append_right _ (List.mem_append_right _ (List.mem_append_left _ h)))
set_option maxRecDepth 20000 in
theorem good_X12_mark : u_X12_mark.all goodWord = true := by decide +kernel
set_option maxRecDepth 20000 in
theorem in_X12_mark : ∀ w ∈ u_X12_mark, w ∈ lw_tbl := ma_cons inc_X12_mark (ma_app (ma_pos o_X12_mark [1190, 1191, 76, 1003] (by decide +kernel)) (ma_app in_X12_isMark (ma_app inb_X12 ma_nil)))
set_option maxHeartbeats 4000000 in
set_option maxRecDepth 100000 in
theorem c_X12_mark (l : Launch) (D : va_G) (cI cJ cZ cB : ClassId) (sz : Nat) (h0 : Nat) (v0 : Value) (v1 : Value) (v2 : Value) (v3 : Value) (v4 : Value) (v5 : Value) (v6 : Value) (v7 : Value) (v8 : Value) (v9 : Value) (v10 : Value) (v11 : Value) (v12 : Value) (v13 : Value) (v14 : Value) (v15 : Value) (v16 : Value) (v17 : Value) (v18 : Value) (v19 : Value) (v20 : Value) (v21 : Value) (v22 : Value) (v23 : Value) (v24 : Value) (v25 : Value) (v26 : Value) (v27 : Value) (v28 : Value) (v29 : Value) (v30 : Value) (v31 : Value) (v32 : Value) (v33 : Value) (v34 : Value) (v35 : Value) (v36 : Value) (v37 : Value) (v38 : Value) (v39 : Value) (v40 : Value) (v41 : Value) (v42 : Value) (v43 : Value) (v44 : Value) (v45 : Value) (v46 : Value) (v47 : Value) (v48 : Value) (p1 : Int32) : Met l yX12_mark u_X12_mark ({ frames := 1, cells := 0, slots := 0, locals := 20 }) (va_Pc [.ref h0, .int p1] (kPre D cI cJ cZ cB [(h0, .inr (11, [v0, v1, v2, v3, v4, v5, v6, v7, v8, v9, v10, v11, v12, v13, v14, v15, v16, v17, v18, v19, v20, v21, v22, v23, v24, v25, v26, .int (-1), v27, v28, v29, v30, v31, v32, v33, v34, v35, v36, v37, v38, v39, v40, v41, v42, v43, v44, v45, v46, v47, v48]))] sz)) (va_Qi (fun (r : Int32) (_ : Unit) => r = 0) (kB D (fun (u : Unit) => [(h0, .inr (11, [v0, v1, v2, v3, v4, v5, v6, v7, v8, v9, v10, v11, v12, v13, v14, v15, v16, v17, v18, v19, v20, v21, v22, v23, v24, v25, v26, .int (-1), v27, v28, v29, v30, v31, v32, v33, v34, v35, v36, v37, v38, v39, v40, v41, v42, v43, v44, v45, v46, v47, v48]))]) (va_A [(h0, .inr (11, [v0, v1, v2, v3, v4, v5, v6, v7, v8, v9, v10, v11, v12, v13, v14, v15, v16, v17, v18, v19, v20, v21, v22, v23, v24, v25, v26, .int (-1), v27, v28, v29, v30, v31, v32, v33, v34, v35, v36, v37, v38, v39, v40, v41, v42, v43, v44, v45, v46, v47, v48]))] sz)) (va_A [(h0, .inr (11, [v0, v1, v2, v3, v4, v5, v6, v7, v8, v9, v10, v11, v12, v13, v14, v15, v16, v17, v18, v19, v20, v21, v22, v23, v24, v25, v26, .int (-1), v27, v28, v29, v30, v31, v32, v33, v34, v35, v36, v37, v38, v39, v40, v41, v42, v43, v44, v45, v46, v47, v48]))] sz)) 0 0 (va_A [(h0, .inr (11, [v0, v1, v2, v3, v4, v5, v6, v7, v8, v9, v10, v11, v12, v13, v14, v15, v16, v17, v18, v19, v20, v21, v22, v23, v24, v25, v26, .int (-1), v27, v28, v29, v30, v31, v32, v33, v34, v35, v36, v37, v38, v39, v40, v41, v42, v43, v44, v45, v46, v47, v48]))] sz) := by
  refine Met.ofW (cc := cX12_mark) (maxL := 2) (ret := (some .boolean)) (by decide) rfl ?_
  intro p e s m args below meth c s₁ B hml hv
  obtain ⟨rfl, hsz, hP, hK, hN, hD0⟩ := hv
  have hx := B.exec
  have hb := B.bytes
  have hr := B.returns
  have hts := atoms_spec (ws := u_X12_mark) B.pre
  have hown : s.vm.findClass RX12 = some m.cls := findClass_of_methodNamed B.named
  have hlocks := B.notSynchronized
  subst hsz
  have hD := hD0.self (sz := s.heap.size)
  generalize hAe : va_A [(h0, .inr (11, [v0, v1, v2, v3, v4, v5, v6, v7, v8, v9, v10, v11, v12, v13, v14, v15, v16, v17, v18, v19, v20, v21, v22, v23, v24, v25, v26, .int (-1), v27, v28, v29, v30, v31, v32, v33, v34, v35, v36, v37, v38, v39, v40, v41, v42, v43, v44, v45, v46, v47, v48]))] s.heap.size = A at hD ⊢
  have hA : ∀ q : Nat, s.heap.size ≤ q → A q := fun q h => by rw [← hAe]; exact Or.inr h
  have hS : va_S A s.heap s.heap [] := va_S.rf
  have hP : va_P D vwCl [(h0, .inr (11, [v0, v1, v2, v3, v4, v5, v6, v7, v8, v9, v10, v11, v12, v13, v14, v15, v16, v17, v18, v19, v20, v21, v22, v23, v24, v25, v26, .int (-1), v27, v28, v29, v30, v31, v32, v33, v34, v35, v36, v37, v38, v39, v40, v41, v42, v43, v44, v45, v46, v47, v48]))] s.heap := hP
  have hl := lv_entry ([.ref h0, .int p1]) (n := 2) (Nat.le_of_ble_eq_true rfl)
  rw [lg_entry_eq]
  generalize (lg_sl ([.ref h0, .int p1]) ++ List.replicate (2 - (lg_sl ([.ref h0, .int p1])).length) Slot.unset).toArray = ls at hl ⊢
  have hl : lv_has ls 2 [(0, .ref h0), (1, .int p1)] := hl
  obtain ⟨H, hHe⟩ : ∃ H, s.heap = H := ⟨_, rfl⟩
  have hP : va_P D vwCl [(h0, .inr (11, [v0, v1, v2, v3, v4, v5, v6, v7, v8, v9, v10, v11, v12, v13, v14, v15, v16, v17, v18, v19, v20, v21, v22, v23, v24, v25, v26, .int (-1), v27, v28, v29, v30, v31, v32, v33, v34, v35, v36, v37, v38, v39, v40, v41, v42, v43, v44, v45, v46, v47, v48]))] H := by rw [← hHe]; exact hP
  have hS : va_S A s.heap H [] := by rw [← hHe]; exact hS
  refine kn_heap hHe ?_
  refine lv_iload_n hx hb dX12_mark_0 rfl (lv_at hl 1 rfl) ?_
  have hPc := hP.sub (ws' := []) [] rfl
  have hDc := hD.sub (ws' := []) [] (by decide) rfl
  refine kn_calli (wr := [(h0, .inr (11, [v0, v1, v2, v3, v4, v5, v6, v7, v8, v9, v10, v11, v12, v13, v14, v15, v16, v17, v18, v19, v20, v21, v22, v23, v24, v25, v26, .int (-1), v27, v28, v29, v30, v31, v32, v33, v34, v35, v36, v37, v38, v39, v40, v41, v42, v43, v44, v45, v46, v47, v48]))]) (cells' := 0) (slots' := 0) (va_runS (As := [.int p1]) (rest := []) ⟨hx, hb, hml, hown, hts⟩ (c_X12_isMark l D cI cJ cZ cB H.size p1) (va_cwS 1 hts (goodIn_app (goodIn_of _ (by decide +kernel)) gs_X12_mark__X12_isMark) rfl rfl rfl (by decide +kernel) ⟨(Nat.le_of_ble_eq_true rfl), (Nat.le_of_ble_eq_true rfl)⟩) (kp_S hPc hK hN hDc) rfl rfl hl.1 rfl (lv_room (Nat.le_of_ble_eq_true rfl)) dX12_mark_1 ⟨(Nat.le_of_ble_eq_true rfl), (Nat.le_of_ble_eq_true rfl)⟩) hS hA hP hD [] [0] rfl rfl (by decide) (by decide) (Nat.le_of_ble_eq_true rfl) (Nat.le_of_ble_eq_true rfl) (fun r_647 u H locs hw_648 hP hD hS => ?_)
  have hP : va_P D vwCl [(h0, .inr (11, [v0, v1, v2, v3, v4, v5, v6, v7, v8, v9, v10, v11, v12, v13, v14, v15, v16, v17, v18, v19, v20, v21, v22, v23, v24, v25, v26, .int (-1), v27, v28, v29, v30, v31, v32, v33, v34, v35, v36, v37, v38, v39, v40, v41, v42, v43, v44, v45, v46, v47, v48]))] H := hP
  have hD : va_D A [(h0, .inr (11, [v0, v1, v2, v3, v4, v5, v6, v7, v8, v9, v10, v11, v12, v13, v14, v15, v16, v17, v18, v19, v20, v21, v22, v23, v24, v25, v26, .int (-1), v27, v28, v29, v30, v31, v32, v33, v34, v35, v36, v37, v38, v39, v40, v41, v42, v43, v44, v45, v46, v47, v48]))] := hD
  refine lv_if_eq (tgt := 14) hx hb dX12_mark_4 (by decide) (fun c_649 => ?_) (fun c_649 => ?_)
  · skip
    refine lv_iconst (v := 0) hx hb dX12_mark_14 (by decide) ?_
    have hP9 := hP.sub (ws' := [(h0, .inr (11, [v0, v1, v2, v3, v4, v5, v6, v7, v8, v9, v10, v11, v12, v13, v14, v15, v16, v17, v18, v19, v20, v21, v22, v23, v24, v25, v26, .int (-1), v27, v28, v29, v30, v31, v32, v33, v34, v35, v36, v37, v38, v39, v40, v41, v42, v43, v44, v45, v46, v47, v48]))]) [0] rfl
    have hD9 := hD.sub (ws' := [(h0, .inr (11, [v0, v1, v2, v3, v4, v5, v6, v7, v8, v9, v10, v11, v12, v13, v14, v15, v16, v17, v18, v19, v20, v21, v22, v23, v24, v25, v26, .int (-1), v27, v28, v29, v30, v31, v32, v33, v34, v35, v36, v37, v38, v39, v40, v41, v42, v43, v44, v45, v46, v47, v48]))]) [0] (by decide) rfl
    exact W.zret (v := 0) hx hb hr rfl (fun t ht hW => ⟨⟨0, (), rfl, rfl, by rw [ht]; exact hP9, hD9⟩, hS.F ht⟩) hS.2.2 dX12_mark_15
  · skip
    refine lv_aload_n hx hb dX12_mark_7 rfl (lv_at hl 0 rfl) ?_
    refine va_get (D := D) (ci := 11) (v := .int (-1)) (C := RX12) (T := TX12) (N := 50) hx hb hts inw_X12_mark_X12 hown hK hP 0 rfl rfl 27 (by decide) (hts (.fieldLink RX12 116 "EarTableModel" "placeLine" "I") (by decide +kernel)) (fun _ h9 => h9) rfl dX12_mark_8 ?_
    refine lv_if_ge (tgt := 16) hx hb dX12_mark_11 (by decide) (fun c_650 => ?_) (fun c_650 => ?_)
    · skip
      exact absurd c_650 (by decide)
    · skip
      refine lv_iconst (v := 0) hx hb dX12_mark_14 (by decide) ?_
      have hP9 := hP.sub (ws' := [(h0, .inr (11, [v0, v1, v2, v3, v4, v5, v6, v7, v8, v9, v10, v11, v12, v13, v14, v15, v16, v17, v18, v19, v20, v21, v22, v23, v24, v25, v26, .int (-1), v27, v28, v29, v30, v31, v32, v33, v34, v35, v36, v37, v38, v39, v40, v41, v42, v43, v44, v45, v46, v47, v48]))]) [0] rfl
      have hD9 := hD.sub (ws' := [(h0, .inr (11, [v0, v1, v2, v3, v4, v5, v6, v7, v8, v9, v10, v11, v12, v13, v14, v15, v16, v17, v18, v19, v20, v21, v22, v23, v24, v25, v26, .int (-1), v27, v28, v29, v30, v31, v32, v33, v34, v35, v36, v37, v38, v39, v40, v41, v42, v43, v44, v45, v46, v47, v48]))]) [0] (by decide) rfl
      exact W.zret (v := 0) hx hb hr rfl (fun t ht hW => ⟨⟨0, (), rfl, rfl, by rw [ht]; exact hP9, hD9⟩, hS.F ht⟩) hS.2.2 dX12_mark_15
def o_X9_positionOf_k1 : List Cond := [.fieldLink RX9 22 "EarTable$View" "size" "I"]
def u_X9_positionOf_k1 : List Cond := .code yX9_positionOf cX9_positionOf 3 (some .int) :: (o_X9_positionOf_k1 ++ (wsX90 ++ ([] : List Cond)))
theorem inw_X9_positionOf_k1_X9 : ∀ w ∈ wsX90, w ∈ u_X9_positionOf_k1 := fun w h => List.mem_cons_of_mem _ (List.mem_append_right _ (List.mem_append_left _ h))
set_option maxRecDepth 20000 in
theorem good_X9_positionOf_k1 : u_X9_positionOf_k1.all goodWord = true := by decide +kernel
set_option maxRecDepth 20000 in
theorem in_X9_positionOf_k1 : ∀ w ∈ u_X9_positionOf_k1, w ∈ lw_tbl := ma_cons inc_X9_positionOf (ma_app (ma_pos o_X9_positionOf_k1 [217] (by decide +kernel)) (ma_app inb_X9 ma_nil))
set_option maxHeartbeats 4000000 in
set_option maxRecDepth 100000 in
theorem c_X9_positionOf_k1 (l : Launch) (D : va_G) (cI cJ cZ cB : ClassId) (sz : Nat) (h0 : Nat) (v0 : Value) (v1 : Value) (v2 : Value) (v3 : Value) (p1 : Int32) : Met l yX9_positionOf u_X9_positionOf_k1 ({ frames := 0, cells := 0, slots := 0, locals := 0 }) (va_Pc [.ref h0, .int p1] (kPre D cI cJ cZ cB [(h0, .inr (8, [v0, v1, v2, .int 0, v3]))] sz)) (va_Qi (fun (r : Int32) (_ : Unit) => r = (-1)) (kB D (fun (u : Unit) => [(h0, .inr (8, [v0, v1, v2, .int 0, v3]))]) (va_A [(h0, .inr (8, [v0, v1, v2, .int 0, v3]))] sz)) (va_A [(h0, .inr (8, [v0, v1, v2, .int 0, v3]))] sz)) 0 0 (va_A [(h0, .inr (8, [v0, v1, v2, .int 0, v3]))] sz) := by
  refine Met.ofW (cc := cX9_positionOf) (maxL := 3) (ret := (some .int)) (by decide) rfl ?_
  intro p e s m args below meth c s₁ B hml hv
  obtain ⟨rfl, hsz, hP, hK, hN, hD0⟩ := hv
  have hx := B.exec
  have hb := B.bytes
  have hr := B.returns
  have hts := atoms_spec (ws := u_X9_positionOf_k1) B.pre
  have hown : s.vm.findClass RX9 = some m.cls := findClass_of_methodNamed B.named
  have hlocks := B.notSynchronized
  subst hsz
  have hD := hD0.self (sz := s.heap.size)
  generalize hAe : va_A [(h0, .inr (8, [v0, v1, v2, .int 0, v3]))] s.heap.size = A at hD ⊢
  have hA : ∀ q : Nat, s.heap.size ≤ q → A q := fun q h => by rw [← hAe]; exact Or.inr h
  have hS : va_S A s.heap s.heap [] := va_S.rf
  have hP : va_P D vwCl [(h0, .inr (8, [v0, v1, v2, .int 0, v3]))] s.heap := hP
  have hl := lv_entry ([.ref h0, .int p1]) (n := 3) (Nat.le_of_ble_eq_true rfl)
  rw [lg_entry_eq]
  generalize (lg_sl ([.ref h0, .int p1]) ++ List.replicate (3 - (lg_sl ([.ref h0, .int p1])).length) Slot.unset).toArray = ls at hl ⊢
  have hl : lv_has ls 3 [(0, .ref h0), (1, .int p1)] := hl
  obtain ⟨H, hHe⟩ : ∃ H, s.heap = H := ⟨_, rfl⟩
  have hP : va_P D vwCl [(h0, .inr (8, [v0, v1, v2, .int 0, v3]))] H := by rw [← hHe]; exact hP
  have hS : va_S A s.heap H [] := by rw [← hHe]; exact hS
  refine kn_heap hHe ?_
  refine lv_iconst (v := 0) hx hb dX9_positionOf_0 (by decide) ?_
  refine lv_istore_n (lv' := [(2, .int 0), (0, .ref h0), (1, .int p1)]) hx hb dX9_positionOf_1 rfl hl (by decide) rfl (fun ls hl => ?_)
  refine lv_iload_n hx hb dX9_positionOf_2 rfl (lv_at hl 0 rfl) ?_
  refine lv_aload_n hx hb dX9_positionOf_3 rfl (lv_at hl 1 rfl) ?_
  refine va_get (D := D) (ci := 8) (v := .int 0) (C := RX9) (T := TX9) (N := 5) hx hb hts inw_X9_positionOf_k1_X9 hown hK hP 0 rfl rfl 3 (by decide) (hts (.fieldLink RX9 22 "EarTable$View" "size" "I") (by decide +kernel)) (fun _ h9 => h9) rfl dX9_positionOf_4 ?_
  refine lv_icmp_ge (tgt := 28) hx hb dX9_positionOf_7 (by decide) (fun c_657 => ?_) (fun c_657 => ?_)
  · skip
    refine lv_iconst (v := (-1)) hx hb dX9_positionOf_28 (by decide) ?_
    have hP9 := hP.sub (ws' := [(h0, .inr (8, [v0, v1, v2, .int 0, v3]))]) [0] rfl
    have hD9 := hD.sub (ws' := [(h0, .inr (8, [v0, v1, v2, .int 0, v3]))]) [0] (by decide) rfl
    exact W.iret (v := (-1)) hx hb hr (fun t ht hW => ⟨⟨(-1), (), rfl, rfl, by rw [ht]; exact hP9, hD9⟩, hS.F ht⟩) hS.2.2 dX9_positionOf_29
  · skip
    exact absurd rfl c_657
def o_X11_go : List Cond := [.fieldLink RX11 37 "EarTable" "view" "LEarTable$View;", .fieldLink RX11 80 "EarTable" "markLines" "[I", .methodLink RX11 205 yX9_positionOf, .instanceMethod yX9_positionOf, .selects RX9 yX9_positionOf yX9_positionOf, .initialized RX9]
def u_X11_go : List Cond := .code yX11_go cX11_go 2 (some .int) :: (o_X11_go ++ (u_X9_positionOf_k1 ++ (wsX110 ++ ([] : List Cond))))
theorem gs_X11_go__X9_positionOf_k1 : GoodIn u_X11_go u_X9_positionOf_k1 := goodIn_sub (fun w h => List.mem_cons_of_mem _ (List.mem_append_right _ (List.mem_append_left _ h))) good_X9_positionOf_k1
theorem inw_X11_go_X11 : ∀ w ∈ wsX110, w ∈ u_X11_go := fun w h => List.mem_cons_of_mem _ (List.mem_append_right _ (List.mem_append_right _ (List.mem_append_left _ h)))
set_option maxRecDepth 20000 in
theorem good_X11_go : u_X11_go.all goodWord = true := by decide +kernel
set_option maxRecDepth 20000 in
theorem in_X11_go : ∀ w ∈ u_X11_go, w ∈ lw_tbl := ma_cons inc_X11_go (ma_app (ma_pos o_X11_go [387, 393, 728, 377, 378, 69] (by decide +kernel)) (ma_app in_X9_positionOf_k1 (ma_app inb_X11 ma_nil)))
set_option maxHeartbeats 4000000 in
set_option maxRecDepth 100000 in
theorem c_X11_go (l : Launch) (D : va_G) (cI cJ cZ cB : ClassId) (sz : Nat) (h0 : Nat) (h1 : Nat) (h2 : Nat) (v0 : Value) (v1 : Value) (v2 : Value) (v3 : Value) (v4 : Value) (v5 : Value) (v6 : Value) (v7 : Value) (v8 : Value) (v9 : Value) (v10 : Value) (f11 : Nat → Int32) (v12 : Value) (v13 : Value) (v14 : Value) (v15 : Value) (p1 : Int32) : Met l yX11_go u_X11_go ({ frames := 1, cells := 0, slots := 0, locals := 22 }) (va_Pc [.ref h0, .int p1] (kPre D cI cJ cZ cB [(h0, .inr (10, [v0, v1, v2, .ref h2, v3, v4, v5, v6, v7, .ref h1, v8, v9, v10])), (h1, .inl (cI, 5, .inl f11)), (h2, .inr (8, [v12, v13, v14, .int 0, v15]))] sz)) (va_Qi (fun (r : Int32) (_ : Unit) => r = (-1)) (kB D (fun (u : Unit) => [(h0, .inr (10, [v0, v1, v2, .ref h2, v3, v4, v5, v6, v7, .ref h1, v8, v9, v10])), (h1, .inl (cI, 5, .inl f11)), (h2, .inr (8, [v12, v13, v14, .int 0, v15]))]) (va_A [(h0, .inr (10, [v0, v1, v2, .ref h2, v3, v4, v5, v6, v7, .ref h1, v8, v9, v10])), (h1, .inl (cI, 5, .inl f11)), (h2, .inr (8, [v12, v13, v14, .int 0, v15]))] sz)) (va_A [(h0, .inr (10, [v0, v1, v2, .ref h2, v3, v4, v5, v6, v7, .ref h1, v8, v9, v10])), (h1, .inl (cI, 5, .inl f11)), (h2, .inr (8, [v12, v13, v14, .int 0, v15]))] sz)) 0 0 (va_A [(h0, .inr (10, [v0, v1, v2, .ref h2, v3, v4, v5, v6, v7, .ref h1, v8, v9, v10])), (h1, .inl (cI, 5, .inl f11)), (h2, .inr (8, [v12, v13, v14, .int 0, v15]))] sz) := by
  refine Met.ofW (cc := cX11_go) (maxL := 2) (ret := (some .int)) (by decide) rfl ?_
  intro p e s m args below meth c s₁ B hml hv
  obtain ⟨rfl, hsz, hP, hK, hN, hD0⟩ := hv
  have hx := B.exec
  have hb := B.bytes
  have hr := B.returns
  have hts := atoms_spec (ws := u_X11_go) B.pre
  have hown : s.vm.findClass RX11 = some m.cls := findClass_of_methodNamed B.named
  have hlocks := B.notSynchronized
  subst hsz
  have hD := hD0.self (sz := s.heap.size)
  generalize hAe : va_A [(h0, .inr (10, [v0, v1, v2, .ref h2, v3, v4, v5, v6, v7, .ref h1, v8, v9, v10])), (h1, .inl (cI, 5, .inl f11)), (h2, .inr (8, [v12, v13, v14, .int 0, v15]))] s.heap.size = A at hD ⊢
  have hA : ∀ q : Nat, s.heap.size ≤ q → A q := fun q h => by rw [← hAe]; exact Or.inr h
  have hS : va_S A s.heap s.heap [] := va_S.rf
  have hP : va_P D vwCl [(h0, .inr (10, [v0, v1, v2, .ref h2, v3, v4, v5, v6, v7, .ref h1, v8, v9, v10])), (h1, .inl (cI, 5, .inl f11)), (h2, .inr (8, [v12, v13, v14, .int 0, v15]))] s.heap := hP
  have hl := lv_entry ([.ref h0, .int p1]) (n := 2) (Nat.le_of_ble_eq_true rfl)
  rw [lg_entry_eq]
  generalize (lg_sl ([.ref h0, .int p1]) ++ List.replicate (2 - (lg_sl ([.ref h0, .int p1])).length) Slot.unset).toArray = ls at hl ⊢
  have hl : lv_has ls 2 [(0, .ref h0), (1, .int p1)] := hl
  obtain ⟨H, hHe⟩ : ∃ H, s.heap = H := ⟨_, rfl⟩
  have hP : va_P D vwCl [(h0, .inr (10, [v0, v1, v2, .ref h2, v3, v4, v5, v6, v7, .ref h1, v8, v9, v10])), (h1, .inl (cI, 5, .inl f11)), (h2, .inr (8, [v12, v13, v14, .int 0, v15]))] H := by rw [← hHe]; exact hP
  have hS : va_S A s.heap H [] := by rw [← hHe]; exact hS
  refine kn_heap hHe ?_
  refine lv_iload_n hx hb dX11_go_0 rfl (lv_at hl 1 rfl) ?_
  refine lv_if_lt (tgt := 26) hx hb dX11_go_1 (by decide) (fun c_654 => ?_) (fun c_654 => ?_)
  · skip
    refine lv_iconst (v := (-1)) hx hb dX11_go_26 (by decide) ?_
    have hP9 := hP.sub (ws' := [(h0, .inr (10, [v0, v1, v2, .ref h2, v3, v4, v5, v6, v7, .ref h1, v8, v9, v10])), (h1, .inl (cI, 5, .inl f11)), (h2, .inr (8, [v12, v13, v14, .int 0, v15]))]) [0, 1, 2] rfl
    have hD9 := hD.sub (ws' := [(h0, .inr (10, [v0, v1, v2, .ref h2, v3, v4, v5, v6, v7, .ref h1, v8, v9, v10])), (h1, .inl (cI, 5, .inl f11)), (h2, .inr (8, [v12, v13, v14, .int 0, v15]))]) [0, 1, 2] (by decide) rfl
    exact W.iret (v := (-1)) hx hb hr (fun t ht hW => ⟨⟨(-1), (), rfl, rfl, by rw [ht]; exact hP9, hD9⟩, hS.F ht⟩) hS.2.2 dX11_go_27
  · skip
    refine lv_iload_n hx hb dX11_go_4 rfl (lv_at hl 1 rfl) ?_
    refine lv_iconst (v := 5) hx hb dX11_go_5 (by decide) ?_
    refine lv_icmp_ge (tgt := 26) hx hb dX11_go_6 (by decide) (fun c_655 => ?_) (fun c_655 => ?_)
    · skip
      refine lv_iconst (v := (-1)) hx hb dX11_go_26 (by decide) ?_
      have hP9 := hP.sub (ws' := [(h0, .inr (10, [v0, v1, v2, .ref h2, v3, v4, v5, v6, v7, .ref h1, v8, v9, v10])), (h1, .inl (cI, 5, .inl f11)), (h2, .inr (8, [v12, v13, v14, .int 0, v15]))]) [0, 1, 2] rfl
      have hD9 := hD.sub (ws' := [(h0, .inr (10, [v0, v1, v2, .ref h2, v3, v4, v5, v6, v7, .ref h1, v8, v9, v10])), (h1, .inl (cI, 5, .inl f11)), (h2, .inr (8, [v12, v13, v14, .int 0, v15]))]) [0, 1, 2] (by decide) rfl
      exact W.iret (v := (-1)) hx hb hr (fun t ht hW => ⟨⟨(-1), (), rfl, rfl, by rw [ht]; exact hP9, hD9⟩, hS.F ht⟩) hS.2.2 dX11_go_27
    · skip
      refine lv_aload_n hx hb dX11_go_9 rfl (lv_at hl 0 rfl) ?_
      refine va_get (D := D) (ci := 10) (v := .ref h2) (C := RX11) (T := TX11) (N := 13) hx hb hts inw_X11_go_X11 hown hK hP 0 rfl rfl 3 (by decide) (hts (.fieldLink RX11 37 "EarTable" "view" "LEarTable$View;") (by decide +kernel)) (fun _ h9 => h9) rfl dX11_go_10 ?_
      refine lv_aload_n hx hb dX11_go_13 rfl (lv_at hl 0 rfl) ?_
      refine va_get (D := D) (ci := 10) (v := .ref h1) (C := RX11) (T := TX11) (N := 13) hx hb hts inw_X11_go_X11 hown hK hP 0 rfl rfl 9 (by decide) (hts (.fieldLink RX11 80 "EarTable" "markLines" "[I") (by decide +kernel)) (fun _ h9 => h9) rfl dX11_go_14 ?_
      refine lv_iload_n hx hb dX11_go_17 rfl (lv_at hl 1 rfl) ?_
      refine va_iald hx hb hK hP 1 0 rfl rfl (kn_in2 c_654 c_655 (by decide)) dX11_go_18 ?_
      refine lv_topi (fun z_656 _ => ?_)
      have hPc := hP.sub (ws' := [(h2, .inr (8, [v12, v13, v14, .int 0, v15]))]) [2] rfl
      have hDc := hD.sub (ws' := [(h2, .inr (8, [v12, v13, v14, .int 0, v15]))]) [2] (by decide) rfl
      refine kn_calli (wr := [(h0, .inr (10, [v0, v1, v2, .ref h2, v3, v4, v5, v6, v7, .ref h1, v8, v9, v10])), (h1, .inl (cI, 5, .inl f11))]) (cells' := 0) (slots' := 0) (va_runV (As := [.int z_656]) (rest := []) ⟨hx, hb, hml, hown, hts⟩ (c_X9_positionOf_k1 l D cI cJ cZ cB H.size h2 v12 v13 v14 v15 z_656) (cwV 1 hts (goodIn_app (goodIn_of _ (by decide +kernel)) gs_X11_go__X9_positionOf_k1) rfl rfl rfl (by decide +kernel) ⟨(Nat.le_of_ble_eq_true rfl), (Nat.le_of_ble_eq_true rfl)⟩) (kp_V 0 8 rfl rfl hPc hK hN hDc) rfl rfl hl.1 rfl (lv_room (Nat.le_of_ble_eq_true rfl)) dX11_go_19 ⟨(Nat.le_of_ble_eq_true rfl), (Nat.le_of_ble_eq_true rfl)⟩) hS hA hP hD [2] [0, 1] rfl rfl (by decide) (by decide) (Nat.le_of_ble_eq_true rfl) (Nat.le_of_ble_eq_true rfl) (fun r_657 u H locs hw_658 hP hD hS => ?_)
      have hP : va_P D vwCl [(h0, .inr (10, [v0, v1, v2, .ref h2, v3, v4, v5, v6, v7, .ref h1, v8, v9, v10])), (h1, .inl (cI, 5, .inl f11)), (h2, .inr (8, [v12, v13, v14, .int 0, v15]))] H := hP
      have hD : va_D A [(h0, .inr (10, [v0, v1, v2, .ref h2, v3, v4, v5, v6, v7, .ref h1, v8, v9, v10])), (h1, .inl (cI, 5, .inl f11)), (h2, .inr (8, [v12, v13, v14, .int 0, v15]))] := hD
      subst hw_658
      refine lv_iconst (v := (-1)) hx hb dX11_go_22 (by decide) ?_
      refine lv_icmp_ne (tgt := 28) hx hb dX11_go_23 (by decide) (fun c_659 => ?_) (fun c_659 => ?_)
      · skip
        exact absurd rfl c_659
      · skip
        refine lv_iconst (v := (-1)) hx hb dX11_go_26 (by decide) ?_
        have hP9 := hP.sub (ws' := [(h0, .inr (10, [v0, v1, v2, .ref h2, v3, v4, v5, v6, v7, .ref h1, v8, v9, v10])), (h1, .inl (cI, 5, .inl f11)), (h2, .inr (8, [v12, v13, v14, .int 0, v15]))]) [0, 1, 2] rfl
        have hD9 := hD.sub (ws' := [(h0, .inr (10, [v0, v1, v2, .ref h2, v3, v4, v5, v6, v7, .ref h1, v8, v9, v10])), (h1, .inl (cI, 5, .inl f11)), (h2, .inr (8, [v12, v13, v14, .int 0, v15]))]) [0, 1, 2] (by decide) rfl
        exact W.iret (v := (-1)) hx hb hr (fun t ht hW => ⟨⟨(-1), (), rfl, rfl, by rw [ht]; exact hP9, hD9⟩, hS.F ht⟩) hS.2.2 dX11_go_27
def o_X12_inView_k1 : List Cond := [.fieldLink RX12 113 "EarTableModel" "viewMany" "I"]
def u_X12_inView_k1 : List Cond := .code yX12_inView cX12_inView 3 (some .int) :: (o_X12_inView_k1 ++ (wsX120 ++ ([] : List Cond)))
theorem inw_X12_inView_k1_X12 : ∀ w ∈ wsX120, w ∈ u_X12_inView_k1 := fun w h => List.mem_cons_of_mem _ (List.mem_append_right _ (List.mem_append_left _ h))
set_option maxRecDepth 20000 in
theorem good_X12_inView_k1 : u_X12_inView_k1.all goodWord = true := by decide +kernel
set_option maxRecDepth 20000 in
theorem in_X12_inView_k1 : ∀ w ∈ u_X12_inView_k1, w ∈ lw_tbl := ma_cons inc_X12_inView (ma_app (ma_pos o_X12_inView_k1 [1002] (by decide +kernel)) (ma_app inb_X12 ma_nil))
set_option maxHeartbeats 4000000 in
set_option maxRecDepth 100000 in
theorem c_X12_inView_k1 (l : Launch) (D : va_G) (cI cJ cZ cB : ClassId) (sz : Nat) (h0 : Nat) (v0 : Value) (v1 : Value) (v2 : Value) (v3 : Value) (v4 : Value) (v5 : Value) (v6 : Value) (v7 : Value) (v8 : Value) (v9 : Value) (v10 : Value) (v11 : Value) (v12 : Value) (v13 : Value) (v14 : Value) (v15 : Value) (v16 : Value) (v17 : Value) (v18 : Value) (v19 : Value) (v20 : Value) (v21 : Value) (v22 : Value) (v23 : Value) (v24 : Value) (v25 : Value) (v26 : Value) (v27 : Value) (v28 : Value) (v29 : Value) (v30 : Value) (v31 : Value) (v32 : Value) (v33 : Value) (v34 : Value) (v35 : Value) (v36 : Value) (v37 : Value) (v38 : Value) (v39 : Value) (v40 : Value) (v41 : Value) (v42 : Value) (v43 : Value) (v44 : Value) (v45 : Value) (v46 : Value) (v47 : Value) (v48 : Value) (p1 : Int32) : Met l yX12_inView u_X12_inView_k1 ({ frames := 0, cells := 0, slots := 0, locals := 0 }) (va_Pc [.ref h0, .int p1] (kPre D cI cJ cZ cB [(h0, .inr (11, [v0, v1, v2, v3, v4, v5, v6, v7, v8, v9, v10, v11, v12, v13, v14, v15, v16, v17, v18, v19, v20, v21, v22, v23, v24, v25, .int 0, v26, v27, v28, v29, v30, v31, v32, v33, v34, v35, v36, v37, v38, v39, v40, v41, v42, v43, v44, v45, v46, v47, v48]))] sz)) (va_Qi (fun (r : Int32) (_ : Unit) => r = (-1)) (kB D (fun (u : Unit) => [(h0, .inr (11, [v0, v1, v2, v3, v4, v5, v6, v7, v8, v9, v10, v11, v12, v13, v14, v15, v16, v17, v18, v19, v20, v21, v22, v23, v24, v25, .int 0, v26, v27, v28, v29, v30, v31, v32, v33, v34, v35, v36, v37, v38, v39, v40, v41, v42, v43, v44, v45, v46, v47, v48]))]) (va_A [(h0, .inr (11, [v0, v1, v2, v3, v4, v5, v6, v7, v8, v9, v10, v11, v12, v13, v14, v15, v16, v17, v18, v19, v20, v21, v22, v23, v24, v25, .int 0, v26, v27, v28, v29, v30, v31, v32, v33, v34, v35, v36, v37, v38, v39, v40, v41, v42, v43, v44, v45, v46, v47, v48]))] sz)) (va_A [(h0, .inr (11, [v0, v1, v2, v3, v4, v5, v6, v7, v8, v9, v10, v11, v12, v13, v14, v15, v16, v17, v18, v19, v20, v21, v22, v23, v24, v25, .int 0, v26, v27, v28, v29, v30, v31, v32, v33, v34, v35, v36, v37, v38, v39, v40, v41, v42, v43, v44, v45, v46, v47, v48]))] sz)) 0 0 (va_A [(h0, .inr (11, [v0, v1, v2, v3, v4, v5, v6, v7, v8, v9, v10, v11, v12, v13, v14, v15, v16, v17, v18, v19, v20, v21, v22, v23, v24, v25, .int 0, v26, v27, v28, v29, v30, v31, v32, v33, v34, v35, v36, v37, v38, v39, v40, v41, v42, v43, v44, v45, v46, v47, v48]))] sz) := by
  refine Met.ofW (cc := cX12_inView) (maxL := 3) (ret := (some .int)) (by decide) rfl ?_
  intro p e s m args below meth c s₁ B hml hv
  obtain ⟨rfl, hsz, hP, hK, hN, hD0⟩ := hv
  have hx := B.exec
  have hb := B.bytes
  have hr := B.returns
  have hts := atoms_spec (ws := u_X12_inView_k1) B.pre
  have hown : s.vm.findClass RX12 = some m.cls := findClass_of_methodNamed B.named
  have hlocks := B.notSynchronized
  subst hsz
  have hD := hD0.self (sz := s.heap.size)
  generalize hAe : va_A [(h0, .inr (11, [v0, v1, v2, v3, v4, v5, v6, v7, v8, v9, v10, v11, v12, v13, v14, v15, v16, v17, v18, v19, v20, v21, v22, v23, v24, v25, .int 0, v26, v27, v28, v29, v30, v31, v32, v33, v34, v35, v36, v37, v38, v39, v40, v41, v42, v43, v44, v45, v46, v47, v48]))] s.heap.size = A at hD ⊢
  have hA : ∀ q : Nat, s.heap.size ≤ q → A q := fun q h => by rw [← hAe]; exact Or.inr h
  have hS : va_S A s.heap s.heap [] := va_S.rf
  have hP : va_P D vwCl [(h0, .inr (11, [v0, v1, v2, v3, v4, v5, v6, v7, v8, v9, v10, v11, v12, v13, v14, v15, v16, v17, v18, v19, v20, v21, v22, v23, v24, v25, .int 0, v26, v27, v28, v29, v30, v31, v32, v33, v34, v35, v36, v37, v38, v39, v40, v41, v42, v43, v44, v45, v46, v47, v48]))] s.heap := hP
  have hl := lv_entry ([.ref h0, .int p1]) (n := 3) (Nat.le_of_ble_eq_true rfl)
  rw [lg_entry_eq]
  generalize (lg_sl ([.ref h0, .int p1]) ++ List.replicate (3 - (lg_sl ([.ref h0, .int p1])).length) Slot.unset).toArray = ls at hl ⊢
  have hl : lv_has ls 3 [(0, .ref h0), (1, .int p1)] := hl
  obtain ⟨H, hHe⟩ : ∃ H, s.heap = H := ⟨_, rfl⟩
  have hP : va_P D vwCl [(h0, .inr (11, [v0, v1, v2, v3, v4, v5, v6, v7, v8, v9, v10, v11, v12, v13, v14, v15, v16, v17, v18, v19, v20, v21, v22, v23, v24, v25, .int 0, v26, v27, v28, v29, v30, v31, v32, v33, v34, v35, v36, v37, v38, v39, v40, v41, v42, v43, v44, v45, v46, v47, v48]))] H := by rw [← hHe]; exact hP
  have hS : va_S A s.heap H [] := by rw [← hHe]; exact hS
  refine kn_heap hHe ?_
  refine lv_iconst (v := 0) hx hb dX12_inView_0 (by decide) ?_
  refine lv_istore_n (lv' := [(2, .int 0), (0, .ref h0), (1, .int p1)]) hx hb dX12_inView_1 rfl hl (by decide) rfl (fun ls hl => ?_)
  refine lv_iload_n hx hb dX12_inView_2 rfl (lv_at hl 0 rfl) ?_
  refine lv_aload_n hx hb dX12_inView_3 rfl (lv_at hl 1 rfl) ?_
  refine va_get (D := D) (ci := 11) (v := .int 0) (C := RX12) (T := TX12) (N := 50) hx hb hts inw_X12_inView_k1_X12 hown hK hP 0 rfl rfl 26 (by decide) (hts (.fieldLink RX12 113 "EarTableModel" "viewMany" "I") (by decide +kernel)) (fun _ h9 => h9) rfl dX12_inView_4 ?_
  refine lv_icmp_ge (tgt := 28) hx hb dX12_inView_7 (by decide) (fun c_668 => ?_) (fun c_668 => ?_)
  · skip
    refine lv_iconst (v := (-1)) hx hb dX12_inView_28 (by decide) ?_
    have hP9 := hP.sub (ws' := [(h0, .inr (11, [v0, v1, v2, v3, v4, v5, v6, v7, v8, v9, v10, v11, v12, v13, v14, v15, v16, v17, v18, v19, v20, v21, v22, v23, v24, v25, .int 0, v26, v27, v28, v29, v30, v31, v32, v33, v34, v35, v36, v37, v38, v39, v40, v41, v42, v43, v44, v45, v46, v47, v48]))]) [0] rfl
    have hD9 := hD.sub (ws' := [(h0, .inr (11, [v0, v1, v2, v3, v4, v5, v6, v7, v8, v9, v10, v11, v12, v13, v14, v15, v16, v17, v18, v19, v20, v21, v22, v23, v24, v25, .int 0, v26, v27, v28, v29, v30, v31, v32, v33, v34, v35, v36, v37, v38, v39, v40, v41, v42, v43, v44, v45, v46, v47, v48]))]) [0] (by decide) rfl
    exact W.iret (v := (-1)) hx hb hr (fun t ht hW => ⟨⟨(-1), (), rfl, rfl, by rw [ht]; exact hP9, hD9⟩, hS.F ht⟩) hS.2.2 dX12_inView_29
  · skip
    exact absurd rfl c_668
def o_X12_go : List Cond := [.methodLink RX12 278 yX12_isMark, .static yX12_isMark, .initialized RX12, .fieldLink RX12 107 "EarTableModel" "markLine" "[I", .methodLink RX12 179 yX12_inView, .instanceMethod yX12_inView, .selects RX12 yX12_inView yX12_inView]
def u_X12_go : List Cond := .code yX12_go cX12_go 2 (some .int) :: (o_X12_go ++ (u_X12_isMark ++ (u_X12_inView_k1 ++ (wsX120 ++ ([] : List Cond)))))
theorem gs_X12_go__X12_isMark : GoodIn u_X12_go u_X12_isMark := goodIn_sub (fun w h => List.mem_cons_of_mem _ (List.mem_append_right _ (List.mem_append_left _ h))) good_X12_isMark
theorem gs_X12_go__X12_inView_k1 : GoodIn u_X12_go u_X12_inView_k1 := goodIn_sub (fun w h => List.mem_cons_of_mem _ (List.mem_append_right _ (List.mem_append_right _ (List.mem_append_left _ h)))) good_X12_inView_k1
theorem inw_X12_go_X12 : ∀ w ∈ wsX120, w ∈ u_X12_go := fun w h => List.mem_cons_of_mem _ (List.mem_append_right _ (List.mem_append_right _ (List.mem_append_right _ (List.mem_append_left _ h))))
set_option maxRecDepth 20000 in
theorem good_X12_go : u_X12_go.all goodWord = true := by decide +kernel
set_option maxRecDepth 20000 in
theorem in_X12_go : ∀ w ∈ u_X12_go, w ∈ lw_tbl := ma_cons inc_X12_go (ma_app (ma_pos o_X12_go [1190, 1191, 76, 1010, 947, 949, 44] (by decide +kernel)) (ma_app in_X12_isMark (ma_app in_X12_inView_k1 (ma_app inb_X12 ma_nil))))
set_option maxHeartbeats 4000000 in
set_option maxRecDepth 100000 in
theorem c_X12_go (l : Launch) (D : va_G) (cI cJ cZ cB : ClassId) (sz : Nat) (h0 : Nat) (h1 : Nat) (v0 : Value) (v1 : Value) (v2 : Value) (v3 : Value) (v4 : Value) (v5 : Value) (v6 : Value) (v7 : Value) (v8 : Value) (v9 : Value) (v10 : Value) (v11 : Value) (v12 : Value) (v13 : Value) (v14 : Value) (v15 : Value) (v16 : Value) (v17 : Value) (v18 : Value) (v19 : Value) (v20 : Value) (v21 : Value) (v22 : Value) (v23 : Value) (v24 : Value) (v25 : Value) (v26 : Value) (v27 : Value) (v28 : Value) (v29 : Value) (v30 : Value) (v31 : Value) (v32 : Value) (v33 : Value) (v34 : Value) (v35 : Value) (v36 : Value) (v37 : Value) (v38 : Value) (v39 : Value) (v40 : Value) (v41 : Value) (v42 : Value) (v43 : Value) (v44 : Value) (v45 : Value) (v46 : Value) (v47 : Value) (f48 : Nat → Int32) (p1 : Int32) : Met l yX12_go u_X12_go ({ frames := 1, cells := 0, slots := 0, locals := 22 }) (va_Pc [.ref h0, .int p1] (kPre D cI cJ cZ cB [(h0, .inr (11, [v0, v1, v2, v3, v4, v5, v6, v7, v8, v9, v10, v11, v12, v13, v14, v15, v16, v17, v18, v19, v20, v21, v22, v23, v24, v25, .int 0, v26, v27, v28, v29, v30, v31, v32, .ref h1, v33, v34, v35, v36, v37, v38, v39, v40, v41, v42, v43, v44, v45, v46, v47])), (h1, .inl (cI, 5, .inl f48))] sz)) (va_Qi (fun (r : Int32) (_ : Unit) => r = (-1)) (kB D (fun (u : Unit) => [(h0, .inr (11, [v0, v1, v2, v3, v4, v5, v6, v7, v8, v9, v10, v11, v12, v13, v14, v15, v16, v17, v18, v19, v20, v21, v22, v23, v24, v25, .int 0, v26, v27, v28, v29, v30, v31, v32, .ref h1, v33, v34, v35, v36, v37, v38, v39, v40, v41, v42, v43, v44, v45, v46, v47])), (h1, .inl (cI, 5, .inl f48))]) (va_A [(h0, .inr (11, [v0, v1, v2, v3, v4, v5, v6, v7, v8, v9, v10, v11, v12, v13, v14, v15, v16, v17, v18, v19, v20, v21, v22, v23, v24, v25, .int 0, v26, v27, v28, v29, v30, v31, v32, .ref h1, v33, v34, v35, v36, v37, v38, v39, v40, v41, v42, v43, v44, v45, v46, v47])), (h1, .inl (cI, 5, .inl f48))] sz)) (va_A [(h0, .inr (11, [v0, v1, v2, v3, v4, v5, v6, v7, v8, v9, v10, v11, v12, v13, v14, v15, v16, v17, v18, v19, v20, v21, v22, v23, v24, v25, .int 0, v26, v27, v28, v29, v30, v31, v32, .ref h1, v33, v34, v35, v36, v37, v38, v39, v40, v41, v42, v43, v44, v45, v46, v47])), (h1, .inl (cI, 5, .inl f48))] sz)) 0 0 (va_A [(h0, .inr (11, [v0, v1, v2, v3, v4, v5, v6, v7, v8, v9, v10, v11, v12, v13, v14, v15, v16, v17, v18, v19, v20, v21, v22, v23, v24, v25, .int 0, v26, v27, v28, v29, v30, v31, v32, .ref h1, v33, v34, v35, v36, v37, v38, v39, v40, v41, v42, v43, v44, v45, v46, v47])), (h1, .inl (cI, 5, .inl f48))] sz) := by
  refine Met.ofW (cc := cX12_go) (maxL := 2) (ret := (some .int)) (by decide) rfl ?_
  intro p e s m args below meth c s₁ B hml hv
  obtain ⟨rfl, hsz, hP, hK, hN, hD0⟩ := hv
  have hx := B.exec
  have hb := B.bytes
  have hr := B.returns
  have hts := atoms_spec (ws := u_X12_go) B.pre
  have hown : s.vm.findClass RX12 = some m.cls := findClass_of_methodNamed B.named
  have hlocks := B.notSynchronized
  subst hsz
  have hD := hD0.self (sz := s.heap.size)
  generalize hAe : va_A [(h0, .inr (11, [v0, v1, v2, v3, v4, v5, v6, v7, v8, v9, v10, v11, v12, v13, v14, v15, v16, v17, v18, v19, v20, v21, v22, v23, v24, v25, .int 0, v26, v27, v28, v29, v30, v31, v32, .ref h1, v33, v34, v35, v36, v37, v38, v39, v40, v41, v42, v43, v44, v45, v46, v47])), (h1, .inl (cI, 5, .inl f48))] s.heap.size = A at hD ⊢
  have hA : ∀ q : Nat, s.heap.size ≤ q → A q := fun q h => by rw [← hAe]; exact Or.inr h
  have hS : va_S A s.heap s.heap [] := va_S.rf
  have hP : va_P D vwCl [(h0, .inr (11, [v0, v1, v2, v3, v4, v5, v6, v7, v8, v9, v10, v11, v12, v13, v14, v15, v16, v17, v18, v19, v20, v21, v22, v23, v24, v25, .int 0, v26, v27, v28, v29, v30, v31, v32, .ref h1, v33, v34, v35, v36, v37, v38, v39, v40, v41, v42, v43, v44, v45, v46, v47])), (h1, .inl (cI, 5, .inl f48))] s.heap := hP
  have hl := lv_entry ([.ref h0, .int p1]) (n := 2) (Nat.le_of_ble_eq_true rfl)
  rw [lg_entry_eq]
  generalize (lg_sl ([.ref h0, .int p1]) ++ List.replicate (2 - (lg_sl ([.ref h0, .int p1])).length) Slot.unset).toArray = ls at hl ⊢
  have hl : lv_has ls 2 [(0, .ref h0), (1, .int p1)] := hl
  obtain ⟨H, hHe⟩ : ∃ H, s.heap = H := ⟨_, rfl⟩
  have hP : va_P D vwCl [(h0, .inr (11, [v0, v1, v2, v3, v4, v5, v6, v7, v8, v9, v10, v11, v12, v13, v14, v15, v16, v17, v18, v19, v20, v21, v22, v23, v24, v25, .int 0, v26, v27, v28, v29, v30, v31, v32, .ref h1, v33, v34, v35, v36, v37, v38, v39, v40, v41, v42, v43, v44, v45, v46, v47])), (h1, .inl (cI, 5, .inl f48))] H := by rw [← hHe]; exact hP
  have hS : va_S A s.heap H [] := by rw [← hHe]; exact hS
  refine kn_heap hHe ?_
  refine lv_iload_n hx hb dX12_go_0 rfl (lv_at hl 1 rfl) ?_
  have hPc := hP.sub (ws' := []) [] rfl
  have hDc := hD.sub (ws' := []) [] (by decide) rfl
  refine kn_calli (wr := [(h0, .inr (11, [v0, v1, v2, v3, v4, v5, v6, v7, v8, v9, v10, v11, v12, v13, v14, v15, v16, v17, v18, v19, v20, v21, v22, v23, v24, v25, .int 0, v26, v27, v28, v29, v30, v31, v32, .ref h1, v33, v34, v35, v36, v37, v38, v39, v40, v41, v42, v43, v44, v45, v46, v47])), (h1, .inl (cI, 5, .inl f48))]) (cells' := 0) (slots' := 0) (va_runS (As := [.int p1]) (rest := []) ⟨hx, hb, hml, hown, hts⟩ (c_X12_isMark l D cI cJ cZ cB H.size p1) (va_cwS 1 hts (goodIn_app (goodIn_of _ (by decide +kernel)) gs_X12_go__X12_isMark) rfl rfl rfl (by decide +kernel) ⟨(Nat.le_of_ble_eq_true rfl), (Nat.le_of_ble_eq_true rfl)⟩) (kp_S hPc hK hN hDc) rfl rfl hl.1 rfl (lv_room (Nat.le_of_ble_eq_true rfl)) dX12_go_1 ⟨(Nat.le_of_ble_eq_true rfl), (Nat.le_of_ble_eq_true rfl)⟩) hS hA hP hD [] [0, 1] rfl rfl (by decide) (by decide) (Nat.le_of_ble_eq_true rfl) (Nat.le_of_ble_eq_true rfl) (fun r_662 u H locs hw_663 hP hD hS => ?_)
  have hP : va_P D vwCl [(h0, .inr (11, [v0, v1, v2, v3, v4, v5, v6, v7, v8, v9, v10, v11, v12, v13, v14, v15, v16, v17, v18, v19, v20, v21, v22, v23, v24, v25, .int 0, v26, v27, v28, v29, v30, v31, v32, .ref h1, v33, v34, v35, v36, v37, v38, v39, v40, v41, v42, v43, v44, v45, v46, v47])), (h1, .inl (cI, 5, .inl f48))] H := hP
  have hD : va_D A [(h0, .inr (11, [v0, v1, v2, v3, v4, v5, v6, v7, v8, v9, v10, v11, v12, v13, v14, v15, v16, v17, v18, v19, v20, v21, v22, v23, v24, v25, .int 0, v26, v27, v28, v29, v30, v31, v32, .ref h1, v33, v34, v35, v36, v37, v38, v39, v40, v41, v42, v43, v44, v45, v46, v47])), (h1, .inl (cI, 5, .inl f48))] := hD
  refine lv_if_eq (tgt := 29) hx hb dX12_go_4 (by decide) (fun c_664 => ?_) (fun c_664 => ?_)
  · skip
    refine lv_iconst (v := (-1)) hx hb dX12_go_29 (by decide) ?_
    have hP9 := hP.sub (ws' := [(h0, .inr (11, [v0, v1, v2, v3, v4, v5, v6, v7, v8, v9, v10, v11, v12, v13, v14, v15, v16, v17, v18, v19, v20, v21, v22, v23, v24, v25, .int 0, v26, v27, v28, v29, v30, v31, v32, .ref h1, v33, v34, v35, v36, v37, v38, v39, v40, v41, v42, v43, v44, v45, v46, v47])), (h1, .inl (cI, 5, .inl f48))]) [0, 1] rfl
    have hD9 := hD.sub (ws' := [(h0, .inr (11, [v0, v1, v2, v3, v4, v5, v6, v7, v8, v9, v10, v11, v12, v13, v14, v15, v16, v17, v18, v19, v20, v21, v22, v23, v24, v25, .int 0, v26, v27, v28, v29, v30, v31, v32, .ref h1, v33, v34, v35, v36, v37, v38, v39, v40, v41, v42, v43, v44, v45, v46, v47])), (h1, .inl (cI, 5, .inl f48))]) [0, 1] (by decide) rfl
    exact W.iret (v := (-1)) hx hb hr (fun t ht hW => ⟨⟨(-1), (), rfl, rfl, by rw [ht]; exact hP9, hD9⟩, hS.F ht⟩) hS.2.2 dX12_go_30
  · skip
    refine lv_aload_n hx hb dX12_go_7 rfl (lv_at hl 0 rfl) ?_
    refine va_get (D := D) (ci := 11) (v := .ref h1) (C := RX12) (T := TX12) (N := 50) hx hb hts inw_X12_go_X12 hown hK hP 0 rfl rfl 34 (by decide) (hts (.fieldLink RX12 107 "EarTableModel" "markLine" "[I") (by decide +kernel)) (fun _ h9 => h9) rfl dX12_go_8 ?_
    refine lv_iload_n hx hb dX12_go_11 rfl (lv_at hl 1 rfl) ?_
    refine va_iald hx hb hK hP 1 0 rfl rfl (hw_663.resolve_left c_664) dX12_go_12 ?_
    refine lv_topi (fun z_665 _ => ?_)
    refine lv_if_lt (tgt := 29) hx hb dX12_go_13 (by decide) (fun c_666 => ?_) (fun c_666 => ?_)
    · skip
      refine lv_iconst (v := (-1)) hx hb dX12_go_29 (by decide) ?_
      have hP9 := hP.sub (ws' := [(h0, .inr (11, [v0, v1, v2, v3, v4, v5, v6, v7, v8, v9, v10, v11, v12, v13, v14, v15, v16, v17, v18, v19, v20, v21, v22, v23, v24, v25, .int 0, v26, v27, v28, v29, v30, v31, v32, .ref h1, v33, v34, v35, v36, v37, v38, v39, v40, v41, v42, v43, v44, v45, v46, v47])), (h1, .inl (cI, 5, .inl f48))]) [0, 1] rfl
      have hD9 := hD.sub (ws' := [(h0, .inr (11, [v0, v1, v2, v3, v4, v5, v6, v7, v8, v9, v10, v11, v12, v13, v14, v15, v16, v17, v18, v19, v20, v21, v22, v23, v24, v25, .int 0, v26, v27, v28, v29, v30, v31, v32, .ref h1, v33, v34, v35, v36, v37, v38, v39, v40, v41, v42, v43, v44, v45, v46, v47])), (h1, .inl (cI, 5, .inl f48))]) [0, 1] (by decide) rfl
      exact W.iret (v := (-1)) hx hb hr (fun t ht hW => ⟨⟨(-1), (), rfl, rfl, by rw [ht]; exact hP9, hD9⟩, hS.F ht⟩) hS.2.2 dX12_go_30
    · skip
      refine lv_aload_n hx hb dX12_go_16 rfl (lv_at hl 0 rfl) ?_
      refine lv_aload_n hx hb dX12_go_17 rfl (lv_at hl 0 rfl) ?_
      refine va_get (D := D) (ci := 11) (v := .ref h1) (C := RX12) (T := TX12) (N := 50) hx hb hts inw_X12_go_X12 hown hK hP 0 rfl rfl 34 (by decide) (hts (.fieldLink RX12 107 "EarTableModel" "markLine" "[I") (by decide +kernel)) (fun _ h9 => h9) rfl dX12_go_18 ?_
      refine lv_iload_n hx hb dX12_go_21 rfl (lv_at hl 1 rfl) ?_
      refine va_iald hx hb hK hP 1 0 rfl rfl (hw_663.resolve_left c_664) dX12_go_22 ?_
      refine lv_topi (fun z_667 _ => ?_)
      have hPc := hP.sub (ws' := [(h0, .inr (11, [v0, v1, v2, v3, v4, v5, v6, v7, v8, v9, v10, v11, v12, v13, v14, v15, v16, v17, v18, v19, v20, v21, v22, v23, v24, v25, .int 0, v26, v27, v28, v29, v30, v31, v32, .ref h1, v33, v34, v35, v36, v37, v38, v39, v40, v41, v42, v43, v44, v45, v46, v47]))]) [0] rfl
      have hDc := hD.sub (ws' := [(h0, .inr (11, [v0, v1, v2, v3, v4, v5, v6, v7, v8, v9, v10, v11, v12, v13, v14, v15, v16, v17, v18, v19, v20, v21, v22, v23, v24, v25, .int 0, v26, v27, v28, v29, v30, v31, v32, .ref h1, v33, v34, v35, v36, v37, v38, v39, v40, v41, v42, v43, v44, v45, v46, v47]))]) [0] (by decide) rfl
      refine kn_calli (wr := [(h1, .inl (cI, 5, .inl f48))]) (cells' := 0) (slots' := 0) (va_runV (As := [.int z_667]) (rest := []) ⟨hx, hb, hml, hown, hts⟩ (c_X12_inView_k1 l D cI cJ cZ cB H.size h0 v0 v1 v2 v3 v4 v5 v6 v7 v8 v9 v10 v11 v12 v13 v14 v15 v16 v17 v18 v19 v20 v21 v22 v23 v24 v25 v26 v27 v28 v29 v30 v31 v32 (.ref h1) v33 v34 v35 v36 v37 v38 v39 v40 v41 v42 v43 v44 v45 v46 v47 z_667) (cwV 1 hts (goodIn_app (goodIn_of _ (by decide +kernel)) gs_X12_go__X12_inView_k1) rfl rfl rfl (by decide +kernel) ⟨(Nat.le_of_ble_eq_true rfl), (Nat.le_of_ble_eq_true rfl)⟩) (kp_V 0 11 rfl rfl hPc hK hN hDc) rfl rfl hl.1 rfl (lv_room (Nat.le_of_ble_eq_true rfl)) dX12_go_23 ⟨(Nat.le_of_ble_eq_true rfl), (Nat.le_of_ble_eq_true rfl)⟩) hS hA hP hD [0] [1] rfl rfl (by decide) (by decide) (Nat.le_of_ble_eq_true rfl) (Nat.le_of_ble_eq_true rfl) (fun r_668 u H locs hw_669 hP hD hS => ?_)
      have hP : va_P D vwCl [(h1, .inl (cI, 5, .inl f48)), (h0, .inr (11, [v0, v1, v2, v3, v4, v5, v6, v7, v8, v9, v10, v11, v12, v13, v14, v15, v16, v17, v18, v19, v20, v21, v22, v23, v24, v25, .int 0, v26, v27, v28, v29, v30, v31, v32, .ref h1, v33, v34, v35, v36, v37, v38, v39, v40, v41, v42, v43, v44, v45, v46, v47]))] H := hP
      have hD : va_D A [(h1, .inl (cI, 5, .inl f48)), (h0, .inr (11, [v0, v1, v2, v3, v4, v5, v6, v7, v8, v9, v10, v11, v12, v13, v14, v15, v16, v17, v18, v19, v20, v21, v22, v23, v24, v25, .int 0, v26, v27, v28, v29, v30, v31, v32, .ref h1, v33, v34, v35, v36, v37, v38, v39, v40, v41, v42, v43, v44, v45, v46, v47]))] := hD
      subst hw_669
      refine lv_if_ge (tgt := 31) hx hb dX12_go_26 (by decide) (fun c_670 => ?_) (fun c_670 => ?_)
      · skip
        exact absurd c_670 (by decide)
      · skip
        refine lv_iconst (v := (-1)) hx hb dX12_go_29 (by decide) ?_
        have hP9 := hP.sub (ws' := [(h0, .inr (11, [v0, v1, v2, v3, v4, v5, v6, v7, v8, v9, v10, v11, v12, v13, v14, v15, v16, v17, v18, v19, v20, v21, v22, v23, v24, v25, .int 0, v26, v27, v28, v29, v30, v31, v32, .ref h1, v33, v34, v35, v36, v37, v38, v39, v40, v41, v42, v43, v44, v45, v46, v47])), (h1, .inl (cI, 5, .inl f48))]) [1, 0] rfl
        have hD9 := hD.sub (ws' := [(h0, .inr (11, [v0, v1, v2, v3, v4, v5, v6, v7, v8, v9, v10, v11, v12, v13, v14, v15, v16, v17, v18, v19, v20, v21, v22, v23, v24, v25, .int 0, v26, v27, v28, v29, v30, v31, v32, .ref h1, v33, v34, v35, v36, v37, v38, v39, v40, v41, v42, v43, v44, v45, v46, v47])), (h1, .inl (cI, 5, .inl f48))]) [1, 0] (by decide) rfl
        exact W.iret (v := (-1)) hx hb hr (fun t ht hW => ⟨⟨(-1), (), rfl, rfl, by rw [ht]; exact hP9, hD9⟩, hS.F ht⟩) hS.2.2 dX12_go_30
