def o_X12_lineAt : List Cond := [.fieldLink RX12 113 "EarTableModel" "viewMany" "I"]
def u_X12_lineAt : List Cond := .code yX12_lineAt cX12_lineAt 2 (some .int) :: (o_X12_lineAt ++ (wsX120 ++ ([] : List Cond)))
theorem inw_X12_lineAt_X12 : ∀ w ∈ wsX120, w ∈ u_X12_lineAt := fun w h => List.mem_cons_of_mem _ (List.mem_append_right _ (List.mem_append_left _ h))
set_option maxRecDepth 20000 in
theorem good_X12_lineAt : u_X12_lineAt.all goodWord = true := by decide +kernel
set_option maxRecDepth 20000 in
theorem in_X12_lineAt : ∀ w ∈ u_X12_lineAt, w ∈ lw_tbl := ma_cons inc_X12_lineAt (ma_app (ma_pos o_X12_lineAt [1002] (by decide +kernel)) (ma_app inb_X12 ma_nil))
set_option maxHeartbeats 4000000 in
set_option maxRecDepth 100000 in
theorem c_X12_lineAt (l : Launch) (D : va_G) (cI cJ cZ cB : ClassId) (sz : Nat) (h0 : Nat) (v0 : Value) (v1 : Value) (v2 : Value) (v3 : Value) (v4 : Value) (v5 : Value) (v6 : Value) (v7 : Value) (v8 : Value) (v9 : Value) (v10 : Value) (v11 : Value) (v12 : Value) (v13 : Value) (v14 : Value) (v15 : Value) (v16 : Value) (v17 : Value) (v18 : Value) (v19 : Value) (v20 : Value) (v21 : Value) (v22 : Value) (v23 : Value) (v24 : Value) (v25 : Value) (v26 : Value) (v27 : Value) (v28 : Value) (v29 : Value) (v30 : Value) (v31 : Value) (v32 : Value) (v33 : Value) (v34 : Value) (v35 : Value) (v36 : Value) (v37 : Value) (v38 : Value) (v39 : Value) (v40 : Value) (v41 : Value) (v42 : Value) (v43 : Value) (v44 : Value) (v45 : Value) (v46 : Value) (v47 : Value) (v48 : Value) (p1 : Int32) : Met l yX12_lineAt u_X12_lineAt ({ frames := 0, cells := 0, slots := 0, locals := 0 }) (va_Pc [.ref h0, .int p1] (kPre D cI cJ cZ cB [(h0, .inr (11, [v0, v1, v2, v3, v4, v5, v6, v7, v8, v9, v10, v11, v12, v13, v14, v15, v16, v17, v18, v19, v20, v21, v22, v23, v24, v25, .int 0, v26, v27, v28, v29, v30, v31, v32, v33, v34, v35, v36, v37, v38, v39, v40, v41, v42, v43, v44, v45, v46, v47, v48]))] sz)) (va_Qi (fun (r : Int32) (_ : Unit) => r = (-1)) (kB D (fun (u : Unit) => [(h0, .inr (11, [v0, v1, v2, v3, v4, v5, v6, v7, v8, v9, v10, v11, v12, v13, v14, v15, v16, v17, v18, v19, v20, v21, v22, v23, v24, v25, .int 0, v26, v27, v28, v29, v30, v31, v32, v33, v34, v35, v36, v37, v38, v39, v40, v41, v42, v43, v44, v45, v46, v47, v48]))]) (va_A [(h0, .inr (11, [v0, v1, v2, v3, v4, v5, v6, v7, v8, v9, v10, v11, v12, v13, v14, v15, v16, v17, v18, v19, v20, v21, v22, v23, v24, v25, .int 0, v26, v27, v28, v29, v30, v31, v32, v33, v34, v35, v36, v37, v38, v39, v40, v41, v42, v43, v44, v45, v46, v47, v48]))] sz)) (va_A [(h0, .inr (11, [v0, v1, v2, v3, v4, v5, v6, v7, v8, v9, v10, v11, v12, v13, v14, v15, v16, v17, v18, v19, v20, v21, v22, v23, v24, v25, .int 0, v26, v27, v28, v29, v30, v31, v32, v33, v34, v35, v36, v37, v38, v39, v40, v41, v42, v43, v44, v45, v46, v47, v48]))] sz)) 0 0 (va_A [(h0, .inr (11, [v0, v1, v2, v3, v4, v5, v6, v7, v8, v9, v10, v11, v12, v13, v14, v15, v16, v17, v18, v19, v20, v21, v22, v23, v24, v25, .int 0, v26, v27, v28, v29, v30, v31, v32, v33, v34, v35, v36, v37, v38, v39, v40, v41, v42, v43, v44, v45, v46, v47, v48]))] sz) := by
  refine Met.ofW (cc := cX12_lineAt) (maxL := 2) (ret := (some .int)) (by decide) rfl ?_
  intro p e s m args below meth c s₁ B hml hv
  obtain ⟨rfl, hsz, hP, hK, hN, hD0⟩ := hv
  have hx := B.exec
  have hb := B.bytes
  have hr := B.returns
  have hts := atoms_spec (ws := u_X12_lineAt) B.pre
  have hown : s.vm.findClass RX12 = some m.cls := findClass_of_methodNamed B.named
  have hlocks := B.notSynchronized
  subst hsz
  have hD := hD0.self (sz := s.heap.size)
  generalize hAe : va_A [(h0, .inr (11, [v0, v1, v2, v3, v4, v5, v6, v7, v8, v9, v10, v11, v12, v13, v14, v15, v16, v17, v18, v19, v20, v21, v22, v23, v24, v25, .int 0, v26, v27, v28, v29, v30, v31, v32, v33, v34, v35, v36, v37, v38, v39, v40, v41, v42, v43, v44, v45, v46, v47, v48]))] s.heap.size = A at hD ⊢
  have hA : ∀ q : Nat, s.heap.size ≤ q → A q := fun q h => by rw [← hAe]; exact Or.inr h
  have hS : va_S A s.heap s.heap [] := va_S.rf
  have hP : va_P D vwCl [(h0, .inr (11, [v0, v1, v2, v3, v4, v5, v6, v7, v8, v9, v10, v11, v12, v13, v14, v15, v16, v17, v18, v19, v20, v21, v22, v23, v24, v25, .int 0, v26, v27, v28, v29, v30, v31, v32, v33, v34, v35, v36, v37, v38, v39, v40, v41, v42, v43, v44, v45, v46, v47, v48]))] s.heap := hP
  have hl := lv_entry ([.ref h0, .int p1]) (n := 2) (Nat.le_of_ble_eq_true rfl)
  rw [lg_entry_eq]
  generalize (lg_sl ([.ref h0, .int p1]) ++ List.replicate (2 - (lg_sl ([.ref h0, .int p1])).length) Slot.unset).toArray = ls at hl ⊢
  have hl : lv_has ls 2 [(0, .ref h0), (1, .int p1)] := hl
  obtain ⟨H, hHe⟩ : ∃ H, s.heap = H := ⟨_, rfl⟩
  have hP : va_P D vwCl [(h0, .inr (11, [v0, v1, v2, v3, v4, v5, v6, v7, v8, v9, v10, v11, v12, v13, v14, v15, v16, v17, v18, v19, v20, v21, v22, v23, v24, v25, .int 0, v26, v27, v28, v29, v30, v31, v32, v33, v34, v35, v36, v37, v38, v39, v40, v41, v42, v43, v44, v45, v46, v47, v48]))] H := by rw [← hHe]; exact hP
  have hS : va_S A s.heap H [] := by rw [← hHe]; exact hS
  refine kn_heap hHe ?_
  refine lv_iload_n hx hb dX12_lineAt_0 rfl (lv_at hl 1 rfl) ?_
  refine lv_if_lt (tgt := 12) hx hb dX12_lineAt_1 (by decide) (fun c_579 => ?_) (fun c_579 => ?_)
  · skip
    refine lv_iconst (v := (-1)) hx hb dX12_lineAt_12 (by decide) ?_
    refine lv_goto (tgt := 22) hx hb dX12_lineAt_13 (by decide) ?_
    have hP9 := hP.sub (ws' := [(h0, .inr (11, [v0, v1, v2, v3, v4, v5, v6, v7, v8, v9, v10, v11, v12, v13, v14, v15, v16, v17, v18, v19, v20, v21, v22, v23, v24, v25, .int 0, v26, v27, v28, v29, v30, v31, v32, v33, v34, v35, v36, v37, v38, v39, v40, v41, v42, v43, v44, v45, v46, v47, v48]))]) [0] rfl
    have hD9 := hD.sub (ws' := [(h0, .inr (11, [v0, v1, v2, v3, v4, v5, v6, v7, v8, v9, v10, v11, v12, v13, v14, v15, v16, v17, v18, v19, v20, v21, v22, v23, v24, v25, .int 0, v26, v27, v28, v29, v30, v31, v32, v33, v34, v35, v36, v37, v38, v39, v40, v41, v42, v43, v44, v45, v46, v47, v48]))]) [0] (by decide) rfl
    exact W.iret (v := (-1)) hx hb hr (fun t ht hW => ⟨⟨(-1), (), rfl, rfl, by rw [ht]; exact hP9, hD9⟩, hS.F ht⟩) hS.2.2 dX12_lineAt_22
  · skip
    refine lv_iload_n hx hb dX12_lineAt_4 rfl (lv_at hl 1 rfl) ?_
    refine lv_aload_n hx hb dX12_lineAt_5 rfl (lv_at hl 0 rfl) ?_
    refine va_get (D := D) (ci := 11) (v := .int 0) (C := RX12) (T := TX12) (N := 50) hx hb hts inw_X12_lineAt_X12 hown hK hP 0 rfl rfl 26 (by decide) (hts (.fieldLink RX12 113 "EarTableModel" "viewMany" "I") (by decide +kernel)) (fun _ h9 => h9) rfl dX12_lineAt_6 ?_
    refine lv_icmp_lt (tgt := 16) hx hb dX12_lineAt_9 (by decide) (fun c_580 => ?_) (fun c_580 => ?_)
    · skip
      exfalso
      simp only [Int32.lt_iff_toInt_lt, Int32.le_iff_toInt_le] at c_579 c_580
      have k0 : (0 : Int32).toInt = 0 := by decide
      omega
    · skip
      refine lv_iconst (v := (-1)) hx hb dX12_lineAt_12 (by decide) ?_
      refine lv_goto (tgt := 22) hx hb dX12_lineAt_13 (by decide) ?_
      have hP9 := hP.sub (ws' := [(h0, .inr (11, [v0, v1, v2, v3, v4, v5, v6, v7, v8, v9, v10, v11, v12, v13, v14, v15, v16, v17, v18, v19, v20, v21, v22, v23, v24, v25, .int 0, v26, v27, v28, v29, v30, v31, v32, v33, v34, v35, v36, v37, v38, v39, v40, v41, v42, v43, v44, v45, v46, v47, v48]))]) [0] rfl
      have hD9 := hD.sub (ws' := [(h0, .inr (11, [v0, v1, v2, v3, v4, v5, v6, v7, v8, v9, v10, v11, v12, v13, v14, v15, v16, v17, v18, v19, v20, v21, v22, v23, v24, v25, .int 0, v26, v27, v28, v29, v30, v31, v32, v33, v34, v35, v36, v37, v38, v39, v40, v41, v42, v43, v44, v45, v46, v47, v48]))]) [0] (by decide) rfl
      exact W.iret (v := (-1)) hx hb hr (fun t ht hW => ⟨⟨(-1), (), rfl, rfl, by rw [ht]; exact hP9, hD9⟩, hS.F ht⟩) hS.2.2 dX12_lineAt_22
def o_X11_place : List Cond := [.fieldLink RX11 165 "EarTable" "placeLine" "I"]
def u_X11_place : List Cond := .code yX11_place cX11_place 2 (some .int) :: (o_X11_place ++ (wsX110 ++ ([] : List Cond)))
theorem inw_X11_place_X11 : ∀ w ∈ wsX110, w ∈ u_X11_place := fun w h => List.mem_cons_of_mem _ (List.mem_append_right _ (List.mem_append_left _ h))
set_option maxRecDepth 20000 in
theorem good_X11_place : u_X11_place.all goodWord = true := by decide +kernel
set_option maxRecDepth 20000 in
theorem in_X11_place : ∀ w ∈ u_X11_place, w ∈ lw_tbl := ma_cons inc_X11_place (ma_app (ma_pos o_X11_place [395] (by decide +kernel)) (ma_app inb_X11 ma_nil))
set_option maxHeartbeats 4000000 in
set_option maxRecDepth 100000 in
theorem c_X11_place (l : Launch) (D : va_G) (cI cJ cZ cB : ClassId) (sz : Nat) (h0 : Nat) (v0 : Value) (v1 : Value) (v2 : Value) (v3 : Value) (v4 : Value) (v5 : Value) (v6 : Value) (v7 : Value) (v8 : Value) (v9 : Value) (v10 : Value) (v11 : Value) (p1 : Int32) : Met l yX11_place u_X11_place ({ frames := 0, cells := 0, slots := 0, locals := 0 }) (va_Pc [.ref h0, .int p1] (kPre D cI cJ cZ cB [(h0, .inr (10, [v0, v1, v2, v3, v4, v5, v6, v7, v8, v9, v10, .int (-1), v11]))] sz)) (va_Qi (fun (r : Int32) (_ : Unit) => r = (-1)) (kB D (fun (u : Unit) => [(h0, .inr (10, [v0, v1, v2, v3, v4, v5, v6, v7, v8, v9, v10, .int (-1), v11]))]) (va_A [(h0, .inr (10, [v0, v1, v2, v3, v4, v5, v6, v7, v8, v9, v10, .int (-1), v11]))] sz)) (va_A [(h0, .inr (10, [v0, v1, v2, v3, v4, v5, v6, v7, v8, v9, v10, .int (-1), v11]))] sz)) 0 0 (va_A [(h0, .inr (10, [v0, v1, v2, v3, v4, v5, v6, v7, v8, v9, v10, .int (-1), v11]))] sz) := by
  refine Met.ofW (cc := cX11_place) (maxL := 2) (ret := (some .int)) (by decide) rfl ?_
  intro p e s m args below meth c s₁ B hml hv
  obtain ⟨rfl, hsz, hP, hK, hN, hD0⟩ := hv
  have hx := B.exec
  have hb := B.bytes
  have hr := B.returns
  have hts := atoms_spec (ws := u_X11_place) B.pre
  have hown : s.vm.findClass RX11 = some m.cls := findClass_of_methodNamed B.named
  have hlocks := B.notSynchronized
  subst hsz
  have hD := hD0.self (sz := s.heap.size)
  generalize hAe : va_A [(h0, .inr (10, [v0, v1, v2, v3, v4, v5, v6, v7, v8, v9, v10, .int (-1), v11]))] s.heap.size = A at hD ⊢
  have hA : ∀ q : Nat, s.heap.size ≤ q → A q := fun q h => by rw [← hAe]; exact Or.inr h
  have hS : va_S A s.heap s.heap [] := va_S.rf
  have hP : va_P D vwCl [(h0, .inr (10, [v0, v1, v2, v3, v4, v5, v6, v7, v8, v9, v10, .int (-1), v11]))] s.heap := hP
  have hl := lv_entry ([.ref h0, .int p1]) (n := 2) (Nat.le_of_ble_eq_true rfl)
  rw [lg_entry_eq]
  generalize (lg_sl ([.ref h0, .int p1]) ++ List.replicate (2 - (lg_sl ([.ref h0, .int p1])).length) Slot.unset).toArray = ls at hl ⊢
  have hl : lv_has ls 2 [(0, .ref h0), (1, .int p1)] := hl
  obtain ⟨H, hHe⟩ : ∃ H, s.heap = H := ⟨_, rfl⟩
  have hP : va_P D vwCl [(h0, .inr (10, [v0, v1, v2, v3, v4, v5, v6, v7, v8, v9, v10, .int (-1), v11]))] H := by rw [← hHe]; exact hP
  have hS : va_S A s.heap H [] := by rw [← hHe]; exact hS
  refine kn_heap hHe ?_
  refine lv_aload_n hx hb dX11_place_0 rfl (lv_at hl 0 rfl) ?_
  refine va_get (D := D) (ci := 10) (v := .int (-1)) (C := RX11) (T := TX11) (N := 13) hx hb hts inw_X11_place_X11 hown hK hP 0 rfl rfl 11 (by decide) (hts (.fieldLink RX11 165 "EarTable" "placeLine" "I") (by decide +kernel)) (fun _ h9 => h9) rfl dX11_place_1 ?_
  refine lv_iconst (v := (-1)) hx hb dX11_place_4 (by decide) ?_
  refine lv_icmp_ne (tgt := 10) hx hb dX11_place_5 (by decide) (fun c_584 => ?_) (fun c_584 => ?_)
  · skip
    exact absurd rfl c_584
  · skip
    refine lv_iconst (v := (-1)) hx hb dX11_place_8 (by decide) ?_
    have hP9 := hP.sub (ws' := [(h0, .inr (10, [v0, v1, v2, v3, v4, v5, v6, v7, v8, v9, v10, .int (-1), v11]))]) [0] rfl
    have hD9 := hD.sub (ws' := [(h0, .inr (10, [v0, v1, v2, v3, v4, v5, v6, v7, v8, v9, v10, .int (-1), v11]))]) [0] (by decide) rfl
    exact W.iret (v := (-1)) hx hb hr (fun t ht hW => ⟨⟨(-1), (), rfl, rfl, by rw [ht]; exact hP9, hD9⟩, hS.F ht⟩) hS.2.2 dX11_place_9
def o_X12_place : List Cond := [.fieldLink RX12 116 "EarTableModel" "placeLine" "I"]
def u_X12_place : List Cond := .code yX12_place cX12_place 2 (some .int) :: (o_X12_place ++ (wsX120 ++ ([] : List Cond)))
theorem inw_X12_place_X12 : ∀ w ∈ wsX120, w ∈ u_X12_place := fun w h => List.mem_cons_of_mem _ (List.mem_append_right _ (List.mem_append_left _ h))
set_option maxRecDepth 20000 in
theorem good_X12_place : u_X12_place.all goodWord = true := by decide +kernel
set_option maxRecDepth 20000 in
theorem in_X12_place : ∀ w ∈ u_X12_place, w ∈ lw_tbl := ma_cons inc_X12_place (ma_app (ma_pos o_X12_place [1003] (by decide +kernel)) (ma_app inb_X12 ma_nil))
set_option maxHeartbeats 4000000 in
set_option maxRecDepth 100000 in
theorem c_X12_place (l : Launch) (D : va_G) (cI cJ cZ cB : ClassId) (sz : Nat) (h0 : Nat) (v0 : Value) (v1 : Value) (v2 : Value) (v3 : Value) (v4 : Value) (v5 : Value) (v6 : Value) (v7 : Value) (v8 : Value) (v9 : Value) (v10 : Value) (v11 : Value) (v12 : Value) (v13 : Value) (v14 : Value) (v15 : Value) (v16 : Value) (v17 : Value) (v18 : Value) (v19 : Value) (v20 : Value) (v21 : Value) (v22 : Value) (v23 : Value) (v24 : Value) (v25 : Value) (v26 : Value) (v27 : Value) (v28 : Value) (v29 : Value) (v30 : Value) (v31 : Value) (v32 : Value) (v33 : Value) (v34 : Value) (v35 : Value) (v36 : Value) (v37 : Value) (v38 : Value) (v39 : Value) (v40 : Value) (v41 : Value) (v42 : Value) (v43 : Value) (v44 : Value) (v45 : Value) (v46 : Value) (v47 : Value) (v48 : Value) (p1 : Int32) : Met l yX12_place u_X12_place ({ frames := 0, cells := 0, slots := 0, locals := 0 }) (va_Pc [.ref h0, .int p1] (kPre D cI cJ cZ cB [(h0, .inr (11, [v0, v1, v2, v3, v4, v5, v6, v7, v8, v9, v10, v11, v12, v13, v14, v15, v16, v17, v18, v19, v20, v21, v22, v23, v24, v25, v26, .int (-1), v27, v28, v29, v30, v31, v32, v33, v34, v35, v36, v37, v38, v39, v40, v41, v42, v43, v44, v45, v46, v47, v48]))] sz)) (va_Qi (fun (r : Int32) (_ : Unit) => r = (-1)) (kB D (fun (u : Unit) => [(h0, .inr (11, [v0, v1, v2, v3, v4, v5, v6, v7, v8, v9, v10, v11, v12, v13, v14, v15, v16, v17, v18, v19, v20, v21, v22, v23, v24, v25, v26, .int (-1), v27, v28, v29, v30, v31, v32, v33, v34, v35, v36, v37, v38, v39, v40, v41, v42, v43, v44, v45, v46, v47, v48]))]) (va_A [(h0, .inr (11, [v0, v1, v2, v3, v4, v5, v6, v7, v8, v9, v10, v11, v12, v13, v14, v15, v16, v17, v18, v19, v20, v21, v22, v23, v24, v25, v26, .int (-1), v27, v28, v29, v30, v31, v32, v33, v34, v35, v36, v37, v38, v39, v40, v41, v42, v43, v44, v45, v46, v47, v48]))] sz)) (va_A [(h0, .inr (11, [v0, v1, v2, v3, v4, v5, v6, v7, v8, v9, v10, v11, v12, v13, v14, v15, v16, v17, v18, v19, v20, v21, v22, v23, v24, v25, v26, .int (-1), v27, v28, v29, v30, v31, v32, v33, v34, v35, v36, v37, v38, v39, v40, v41, v42, v43, v44, v45, v46, v47, v48]))] sz)) 0 0 (va_A [(h0, .inr (11, [v0, v1, v2, v3, v4, v5, v6, v7, v8, v9, v10, v11, v12, v13, v14, v15, v16, v17, v18, v19, v20, v21, v22, v23, v24, v25, v26, .int (-1), v27, v28, v29, v30, v31, v32, v33, v34, v35, v36, v37, v38, v39, v40, v41, v42, v43, v44, v45, v46, v47, v48]))] sz) := by
  refine Met.ofW (cc := cX12_place) (maxL := 2) (ret := (some .int)) (by decide) rfl ?_
  intro p e s m args below meth c s₁ B hml hv
  obtain ⟨rfl, hsz, hP, hK, hN, hD0⟩ := hv
  have hx := B.exec
  have hb := B.bytes
  have hr := B.returns
  have hts := atoms_spec (ws := u_X12_place) B.pre
  have hown : s.vm.findClass RX12 = some m.cls := findClass_of_methodNamed B.named
  have hlocks := B.notSynchronized
  subst hsz
  have hD := hD0.self (sz := s.heap.size)
  generalize hAe : va_A [(h0, .inr (11, [v0, v1, v2, v3, v4, v5, v6, v7, v8, v9, v10, v11, v12, v13, v14, v15, v16, v17, v18, v19, v20, v21, v22, v23, v24, v25, v26, .int (-1), v27, v28, v29, v30, v31, v32, v33, v34, v35, v36, v37, v38, v39, v40, v41, v42, v43, v44, v45, v46, v47, v48]))] s.heap.size = A at hD ⊢
  have hA : ∀ q : Nat, s.heap.size ≤ q → A q := fun q h => by rw [← hAe]; exact Or.inr h
  have hS : va_S A s.heap s.heap [] := va_S.rf
  have hP : va_P D vwCl [(h0, .inr (11, [v0, v1, v2, v3, v4, v5, v6, v7, v8, v9, v10, v11, v12, v13, v14, v15, v16, v17, v18, v19, v20, v21, v22, v23, v24, v25, v26, .int (-1), v27, v28, v29, v30, v31, v32, v33, v34, v35, v36, v37, v38, v39, v40, v41, v42, v43, v44, v45, v46, v47, v48]))] s.heap := hP
  have hl := lv_entry ([.ref h0, .int p1]) (n := 2) (Nat.le_of_ble_eq_true rfl)
  rw [lg_entry_eq]
  generalize (lg_sl ([.ref h0, .int p1]) ++ List.replicate (2 - (lg_sl ([.ref h0, .int p1])).length) Slot.unset).toArray = ls at hl ⊢
  have hl : lv_has ls 2 [(0, .ref h0), (1, .int p1)] := hl
  obtain ⟨H, hHe⟩ : ∃ H, s.heap = H := ⟨_, rfl⟩
  have hP : va_P D vwCl [(h0, .inr (11, [v0, v1, v2, v3, v4, v5, v6, v7, v8, v9, v10, v11, v12, v13, v14, v15, v16, v17, v18, v19, v20, v21, v22, v23, v24, v25, v26, .int (-1), v27, v28, v29, v30, v31, v32, v33, v34, v35, v36, v37, v38, v39, v40, v41, v42, v43, v44, v45, v46, v47, v48]))] H := by rw [← hHe]; exact hP
  have hS : va_S A s.heap H [] := by rw [← hHe]; exact hS
  refine kn_heap hHe ?_
  refine lv_aload_n hx hb dX12_place_0 rfl (lv_at hl 0 rfl) ?_
  refine va_get (D := D) (ci := 11) (v := .int (-1)) (C := RX12) (T := TX12) (N := 50) hx hb hts inw_X12_place_X12 hown hK hP 0 rfl rfl 27 (by decide) (hts (.fieldLink RX12 116 "EarTableModel" "placeLine" "I") (by decide +kernel)) (fun _ h9 => h9) rfl dX12_place_1 ?_
  refine lv_if_ge (tgt := 11) hx hb dX12_place_4 (by decide) (fun c_587 => ?_) (fun c_587 => ?_)
  · skip
    exact absurd c_587 (by decide)
  · skip
    refine lv_iconst (v := (-1)) hx hb dX12_place_7 (by decide) ?_
    refine lv_goto (tgt := 35) hx hb dX12_place_8 (by decide) ?_
    have hP9 := hP.sub (ws' := [(h0, .inr (11, [v0, v1, v2, v3, v4, v5, v6, v7, v8, v9, v10, v11, v12, v13, v14, v15, v16, v17, v18, v19, v20, v21, v22, v23, v24, v25, v26, .int (-1), v27, v28, v29, v30, v31, v32, v33, v34, v35, v36, v37, v38, v39, v40, v41, v42, v43, v44, v45, v46, v47, v48]))]) [0] rfl
    have hD9 := hD.sub (ws' := [(h0, .inr (11, [v0, v1, v2, v3, v4, v5, v6, v7, v8, v9, v10, v11, v12, v13, v14, v15, v16, v17, v18, v19, v20, v21, v22, v23, v24, v25, v26, .int (-1), v27, v28, v29, v30, v31, v32, v33, v34, v35, v36, v37, v38, v39, v40, v41, v42, v43, v44, v45, v46, v47, v48]))]) [0] (by decide) rfl
    exact W.iret (v := (-1)) hx hb hr (fun t ht hW => ⟨⟨(-1), (), rfl, rfl, by rw [ht]; exact hP9, hD9⟩, hS.F ht⟩) hS.2.2 dX12_place_35
def o_X9_positionOf : List Cond := [.fieldLink RX9 22 "EarTable$View" "size" "I"]
def u_X9_positionOf : List Cond := .code yX9_positionOf cX9_positionOf 3 (some .int) :: (o_X9_positionOf ++ (wsX90 ++ ([] : List Cond)))
theorem inw_X9_positionOf_X9 : ∀ w ∈ wsX90, w ∈ u_X9_positionOf := fun w h => List.mem_cons_of_mem _ (List.mem_append_right _ (List.mem_append_left _ h))
set_option maxRecDepth 20000 in
theorem good_X9_positionOf : u_X9_positionOf.all goodWord = true := by decide +kernel
set_option maxRecDepth 20000 in
theorem in_X9_positionOf : ∀ w ∈ u_X9_positionOf, w ∈ lw_tbl := ma_cons inc_X9_positionOf (ma_app (ma_pos o_X9_positionOf [217] (by decide +kernel)) (ma_app inb_X9 ma_nil))
set_option maxHeartbeats 4000000 in
set_option maxRecDepth 100000 in
theorem c_X9_positionOf (l : Launch) (D : va_G) (cI cJ cZ cB : ClassId) (sz : Nat) (h0 : Nat) (v0 : Value) (v1 : Value) (v2 : Value) (v3 : Value) : Met l yX9_positionOf u_X9_positionOf ({ frames := 0, cells := 0, slots := 0, locals := 0 }) (va_Pc [.ref h0, .int (-1)] (kPre D cI cJ cZ cB [(h0, .inr (8, [v0, v1, v2, .int 0, v3]))] sz)) (va_Qi (fun (r : Int32) (_ : Unit) => r = (-1)) (kB D (fun (u : Unit) => [(h0, .inr (8, [v0, v1, v2, .int 0, v3]))]) (va_A [(h0, .inr (8, [v0, v1, v2, .int 0, v3]))] sz)) (va_A [(h0, .inr (8, [v0, v1, v2, .int 0, v3]))] sz)) 0 0 (va_A [(h0, .inr (8, [v0, v1, v2, .int 0, v3]))] sz) := by
  refine Met.ofW (cc := cX9_positionOf) (maxL := 3) (ret := (some .int)) (by decide) rfl ?_
  intro p e s m args below meth c s₁ B hml hv
  obtain ⟨rfl, hsz, hP, hK, hN, hD0⟩ := hv
  have hx := B.exec
  have hb := B.bytes
  have hr := B.returns
  have hts := atoms_spec (ws := u_X9_positionOf) B.pre
  have hown : s.vm.findClass RX9 = some m.cls := findClass_of_methodNamed B.named
  have hlocks := B.notSynchronized
  subst hsz
  have hD := hD0.self (sz := s.heap.size)
  generalize hAe : va_A [(h0, .inr (8, [v0, v1, v2, .int 0, v3]))] s.heap.size = A at hD ⊢
  have hA : ∀ q : Nat, s.heap.size ≤ q → A q := fun q h => by rw [← hAe]; exact Or.inr h
  have hS : va_S A s.heap s.heap [] := va_S.rf
  have hP : va_P D vwCl [(h0, .inr (8, [v0, v1, v2, .int 0, v3]))] s.heap := hP
  have hl := lv_entry ([.ref h0, .int (-1)]) (n := 3) (Nat.le_of_ble_eq_true rfl)
  rw [lg_entry_eq]
  generalize (lg_sl ([.ref h0, .int (-1)]) ++ List.replicate (3 - (lg_sl ([.ref h0, .int (-1)])).length) Slot.unset).toArray = ls at hl ⊢
  have hl : lv_has ls 3 [(0, .ref h0), (1, .int (-1))] := hl
  obtain ⟨H, hHe⟩ : ∃ H, s.heap = H := ⟨_, rfl⟩
  have hP : va_P D vwCl [(h0, .inr (8, [v0, v1, v2, .int 0, v3]))] H := by rw [← hHe]; exact hP
  have hS : va_S A s.heap H [] := by rw [← hHe]; exact hS
  refine kn_heap hHe ?_
  refine lv_iconst (v := 0) hx hb dX9_positionOf_0 (by decide) ?_
  refine lv_istore_n (lv' := [(2, .int 0), (0, .ref h0), (1, .int (-1))]) hx hb dX9_positionOf_1 rfl hl (by decide) rfl (fun ls hl => ?_)
  refine lv_iload_n hx hb dX9_positionOf_2 rfl (lv_at hl 0 rfl) ?_
  refine lv_aload_n hx hb dX9_positionOf_3 rfl (lv_at hl 1 rfl) ?_
  refine va_get (D := D) (ci := 8) (v := .int 0) (C := RX9) (T := TX9) (N := 5) hx hb hts inw_X9_positionOf_X9 hown hK hP 0 rfl rfl 3 (by decide) (hts (.fieldLink RX9 22 "EarTable$View" "size" "I") (by decide +kernel)) (fun _ h9 => h9) rfl dX9_positionOf_4 ?_
  refine lv_icmp_ge (tgt := 28) hx hb dX9_positionOf_7 (by decide) (fun c_593 => ?_) (fun c_593 => ?_)
  · skip
    refine lv_iconst (v := (-1)) hx hb dX9_positionOf_28 (by decide) ?_
    have hP9 := hP.sub (ws' := [(h0, .inr (8, [v0, v1, v2, .int 0, v3]))]) [0] rfl
    have hD9 := hD.sub (ws' := [(h0, .inr (8, [v0, v1, v2, .int 0, v3]))]) [0] (by decide) rfl
    exact W.iret (v := (-1)) hx hb hr (fun t ht hW => ⟨⟨(-1), (), rfl, rfl, by rw [ht]; exact hP9, hD9⟩, hS.F ht⟩) hS.2.2 dX9_positionOf_29
  · skip
    exact absurd rfl c_593
def o_X5_stepAt : List Cond := []
def u_X5_stepAt : List Cond := .code yX5_stepAt cX5_stepAt 4 (some .int) :: (o_X5_stepAt ++ ([] : List Cond))
set_option maxRecDepth 20000 in
theorem good_X5_stepAt : u_X5_stepAt.all goodWord = true := by decide +kernel
set_option maxRecDepth 20000 in
theorem in_X5_stepAt : ∀ w ∈ u_X5_stepAt, w ∈ lw_tbl := ma_cons inc_X5_stepAt (ma_app (ma_pos o_X5_stepAt [] (by decide +kernel)) ma_nil)
set_option maxHeartbeats 4000000 in
set_option maxRecDepth 100000 in
theorem c_X5_stepAt (l : Launch) (D : va_G) (cI cJ cZ cB : ClassId) (sz : Nat) (h0 : Nat) (v0 : Value) (v1 : Value) : Met l yX5_stepAt u_X5_stepAt ({ frames := 0, cells := 0, slots := 0, locals := 0 }) (va_Pc [.ref h0, .int (-1), .int 0] (kPre D cI cJ cZ cB [(h0, .inr (4, [v0, v1]))] sz)) (va_Qi (fun (r : Int32) (_ : Unit) => r = (-1)) (kB D (fun (u : Unit) => [(h0, .inr (4, [v0, v1]))]) (va_A [(h0, .inr (4, [v0, v1]))] sz)) (va_A [(h0, .inr (4, [v0, v1]))] sz)) 0 0 (va_A [(h0, .inr (4, [v0, v1]))] sz) := by
  refine Met.ofW (cc := cX5_stepAt) (maxL := 4) (ret := (some .int)) (by decide) rfl ?_
  intro p e s m args below meth c s₁ B hml hv
  obtain ⟨rfl, hsz, hP, hK, hN, hD0⟩ := hv
  have hx := B.exec
  have hb := B.bytes
  have hr := B.returns
  have hts := atoms_spec (ws := u_X5_stepAt) B.pre
  have hown : s.vm.findClass RX5 = some m.cls := findClass_of_methodNamed B.named
  have hlocks := B.notSynchronized
  subst hsz
  have hD := hD0.self (sz := s.heap.size)
  generalize hAe : va_A [(h0, .inr (4, [v0, v1]))] s.heap.size = A at hD ⊢
  have hA : ∀ q : Nat, s.heap.size ≤ q → A q := fun q h => by rw [← hAe]; exact Or.inr h
  have hS : va_S A s.heap s.heap [] := va_S.rf
  have hP : va_P D vwCl [(h0, .inr (4, [v0, v1]))] s.heap := hP
  have hl := lv_entry ([.ref h0, .int (-1), .int 0]) (n := 4) (Nat.le_of_ble_eq_true rfl)
  rw [lg_entry_eq]
  generalize (lg_sl ([.ref h0, .int (-1), .int 0]) ++ List.replicate (4 - (lg_sl ([.ref h0, .int (-1), .int 0])).length) Slot.unset).toArray = ls at hl ⊢
  have hl : lv_has ls 4 [(0, .ref h0), (1, .int (-1)), (2, .int 0)] := hl
  obtain ⟨H, hHe⟩ : ∃ H, s.heap = H := ⟨_, rfl⟩
  have hP : va_P D vwCl [(h0, .inr (4, [v0, v1]))] H := by rw [← hHe]; exact hP
  have hS : va_S A s.heap H [] := by rw [← hHe]; exact hS
  refine kn_heap hHe ?_
  refine lv_iload_n hx hb dX5_stepAt_0 rfl (lv_at hl 1 rfl) ?_
  refine lv_if_lt (tgt := 30) hx hb dX5_stepAt_1 (by decide) (fun c_596 => ?_) (fun c_596 => ?_)
  · skip
    refine lv_iconst (v := 0) hx hb dX5_stepAt_30 (by decide) ?_
    refine lv_istore_n (lv' := [(3, .int 0), (0, .ref h0), (1, .int (-1)), (2, .int 0)]) hx hb dX5_stepAt_31 rfl hl (by decide) rfl (fun ls hl => ?_)
    refine lv_iload_n hx hb dX5_stepAt_32 rfl (lv_at hl 0 rfl) ?_
    refine lv_if_eq (tgt := 45) hx hb dX5_stepAt_33 (by decide) (fun c_597 => ?_) (fun c_597 => ?_)
    · skip
      refine lv_iconst (v := (-1)) hx hb dX5_stepAt_45 (by decide) ?_
      have hP9 := hP.sub (ws' := [(h0, .inr (4, [v0, v1]))]) [0] rfl
      have hD9 := hD.sub (ws' := [(h0, .inr (4, [v0, v1]))]) [0] (by decide) rfl
      exact W.iret (v := (-1)) hx hb hr (fun t ht hW => ⟨⟨(-1), (), rfl, rfl, by rw [ht]; exact hP9, hD9⟩, hS.F ht⟩) hS.2.2 dX5_stepAt_46
    · skip
      exact absurd rfl c_597
  · skip
    exact absurd (by decide) c_596
def o_X5_stepOf : List Cond := [.fieldLink RX5 15 "EarTable$Steps" "view" "LEarTable$View;", .methodLink RX5 19 yX9_positionOf, .instanceMethod yX9_positionOf, .selects RX9 yX9_positionOf yX9_positionOf, .initialized RX9, .methodLink RX5 25 yX5_stepAt, .instanceMethod yX5_stepAt, .selects RX5 yX5_stepAt yX5_stepAt, .initialized RX5]
def u_X5_stepOf : List Cond := .code yX5_stepOf cX5_stepOf 3 (some .int) :: (o_X5_stepOf ++ (u_X9_positionOf ++ (u_X5_stepAt ++ (wsX50 ++ ([] : List Cond)))))
theorem gs_X5_stepOf__X9_positionOf : GoodIn u_X5_stepOf u_X9_positionOf := goodIn_sub (fun w h => List.mem_cons_of_mem _ (List.mem_append_right _ (List.mem_append_left _ h))) good_X9_positionOf
theorem gs_X5_stepOf__X5_stepAt : GoodIn u_X5_stepOf u_X5_stepAt := goodIn_sub (fun w h => List.mem_cons_of_mem _ (List.mem_append_right _ (List.mem_append_right _ (List.mem_append_left _ h)))) good_X5_stepAt
theorem inw_X5_stepOf_X5 : ∀ w ∈ wsX50, w ∈ u_X5_stepOf := fun w h => List.mem_cons_of_mem _ (List.mem_append_right _ (List.mem_append_right _ (List.mem_append_right _ (List.mem_append_left _ h))))
set_option maxRecDepth 20000 in
theorem good_X5_stepOf : u_X5_stepOf.all goodWord = true := by decide +kernel
set_option maxRecDepth 20000 in
theorem in_X5_stepOf : ∀ w ∈ u_X5_stepOf, w ∈ lw_tbl := ma_cons inc_X5_stepOf (ma_app (ma_pos o_X5_stepOf [239, 641, 377, 378, 69, 642, 644, 15, 70] (by decide +kernel)) (ma_app in_X9_positionOf (ma_app in_X5_stepAt (ma_app inb_X5 ma_nil))))
set_option maxHeartbeats 4000000 in
set_option maxRecDepth 100000 in
theorem c_X5_stepOf (l : Launch) (D : va_G) (cI cJ cZ cB : ClassId) (sz : Nat) (h0 : Nat) (h1 : Nat) (v0 : Value) (v1 : Value) (v2 : Value) (v3 : Value) (v4 : Value) : Met l yX5_stepOf u_X5_stepOf ({ frames := 1, cells := 0, slots := 0, locals := 23 }) (va_Pc [.ref h0, .int (-1), .int 0] (kPre D cI cJ cZ cB [(h0, .inr (4, [v0, .ref h1])), (h1, .inr (8, [v1, v2, v3, .int 0, v4]))] sz)) (va_Qi (fun (r : Int32) (_ : Unit) => r = (-1)) (kB D (fun (u : Unit) => [(h0, .inr (4, [v0, .ref h1])), (h1, .inr (8, [v1, v2, v3, .int 0, v4]))]) (va_A [(h0, .inr (4, [v0, .ref h1])), (h1, .inr (8, [v1, v2, v3, .int 0, v4]))] sz)) (va_A [(h0, .inr (4, [v0, .ref h1])), (h1, .inr (8, [v1, v2, v3, .int 0, v4]))] sz)) 0 0 (va_A [(h0, .inr (4, [v0, .ref h1])), (h1, .inr (8, [v1, v2, v3, .int 0, v4]))] sz) := by
  refine Met.ofW (cc := cX5_stepOf) (maxL := 3) (ret := (some .int)) (by decide) rfl ?_
  intro p e s m args below meth c s₁ B hml hv
  obtain ⟨rfl, hsz, hP, hK, hN, hD0⟩ := hv
  have hx := B.exec
  have hb := B.bytes
  have hr := B.returns
  have hts := atoms_spec (ws := u_X5_stepOf) B.pre
  have hown : s.vm.findClass RX5 = some m.cls := findClass_of_methodNamed B.named
  have hlocks := B.notSynchronized
  subst hsz
  have hD := hD0.self (sz := s.heap.size)
  generalize hAe : va_A [(h0, .inr (4, [v0, .ref h1])), (h1, .inr (8, [v1, v2, v3, .int 0, v4]))] s.heap.size = A at hD ⊢
  have hA : ∀ q : Nat, s.heap.size ≤ q → A q := fun q h => by rw [← hAe]; exact Or.inr h
  have hS : va_S A s.heap s.heap [] := va_S.rf
  have hP : va_P D vwCl [(h0, .inr (4, [v0, .ref h1])), (h1, .inr (8, [v1, v2, v3, .int 0, v4]))] s.heap := hP
  have hl := lv_entry ([.ref h0, .int (-1), .int 0]) (n := 3) (Nat.le_of_ble_eq_true rfl)
  rw [lg_entry_eq]
  generalize (lg_sl ([.ref h0, .int (-1), .int 0]) ++ List.replicate (3 - (lg_sl ([.ref h0, .int (-1), .int 0])).length) Slot.unset).toArray = ls at hl ⊢
  have hl : lv_has ls 3 [(0, .ref h0), (1, .int (-1)), (2, .int 0)] := hl
  obtain ⟨H, hHe⟩ : ∃ H, s.heap = H := ⟨_, rfl⟩
  have hP : va_P D vwCl [(h0, .inr (4, [v0, .ref h1])), (h1, .inr (8, [v1, v2, v3, .int 0, v4]))] H := by rw [← hHe]; exact hP
  have hS : va_S A s.heap H [] := by rw [← hHe]; exact hS
  refine kn_heap hHe ?_
  refine lv_aload_n hx hb dX5_stepOf_0 rfl (lv_at hl 0 rfl) ?_
  refine lv_aload_n hx hb dX5_stepOf_1 rfl (lv_at hl 0 rfl) ?_
  refine va_get (D := D) (ci := 4) (v := .ref h1) (C := RX5) (T := TX5) (N := 2) hx hb hts inw_X5_stepOf_X5 hown hK hP 0 rfl rfl 1 (by decide) (hts (.fieldLink RX5 15 "EarTable$Steps" "view" "LEarTable$View;") (by decide +kernel)) (fun _ h9 => h9) rfl dX5_stepOf_2 ?_
  refine lv_iload_n hx hb dX5_stepOf_5 rfl (lv_at hl 1 rfl) ?_
  have hPc := hP.sub (ws' := [(h1, .inr (8, [v1, v2, v3, .int 0, v4]))]) [1] rfl
  have hDc := hD.sub (ws' := [(h1, .inr (8, [v1, v2, v3, .int 0, v4]))]) [1] (by decide) rfl
  refine kn_calli (wr := [(h0, .inr (4, [v0, .ref h1]))]) (cells' := 0) (slots' := 0) (va_runV (As := [.int (-1)]) (rest := [.ref h0]) ⟨hx, hb, hml, hown, hts⟩ (c_X9_positionOf l D cI cJ cZ cB H.size h1 v1 v2 v3 v4) (cwV 1 hts (goodIn_app (goodIn_of _ (by decide +kernel)) gs_X5_stepOf__X9_positionOf) rfl rfl rfl (by decide +kernel) ⟨(Nat.le_of_ble_eq_true rfl), (Nat.le_of_ble_eq_true rfl)⟩) (kp_V 0 8 rfl rfl hPc hK hN hDc) rfl rfl hl.1 rfl (lv_room (Nat.le_of_ble_eq_true rfl)) dX5_stepOf_6 ⟨(Nat.le_of_ble_eq_true rfl), (Nat.le_of_ble_eq_true rfl)⟩) hS hA hP hD [1] [0] rfl rfl (by decide) (by decide) (Nat.le_of_ble_eq_true rfl) (Nat.le_of_ble_eq_true rfl) (fun r_593 u H locs hw_594 hP hD hS => ?_)
  have hP : va_P D vwCl [(h0, .inr (4, [v0, .ref h1])), (h1, .inr (8, [v1, v2, v3, .int 0, v4]))] H := hP
  have hD : va_D A [(h0, .inr (4, [v0, .ref h1])), (h1, .inr (8, [v1, v2, v3, .int 0, v4]))] := hD
  subst hw_594
  refine lv_iload_n hx hb dX5_stepOf_9 rfl (lv_at hl 2 rfl) ?_
  have hPc := hP.sub (ws' := [(h0, .inr (4, [v0, .ref h1]))]) [0] rfl
  have hDc := hD.sub (ws' := [(h0, .inr (4, [v0, .ref h1]))]) [0] (by decide) rfl
  refine kn_calli (wr := [(h1, .inr (8, [v1, v2, v3, .int 0, v4]))]) (cells' := 0) (slots' := 0) (va_runV (As := [.int (-1), .int 0]) (rest := []) ⟨hx, hb, hml, hown, hts⟩ (c_X5_stepAt l D cI cJ cZ cB H.size h0 v0 (.ref h1)) (cwV 2 hts (goodIn_app (goodIn_of _ (by decide +kernel)) gs_X5_stepOf__X5_stepAt) rfl rfl rfl (by decide +kernel) ⟨(Nat.le_of_ble_eq_true rfl), (Nat.le_of_ble_eq_true rfl)⟩) (kp_V 0 4 rfl rfl hPc hK hN hDc) rfl rfl hl.1 rfl (lv_room (Nat.le_of_ble_eq_true rfl)) dX5_stepOf_10 ⟨(Nat.le_of_ble_eq_true rfl), (Nat.le_of_ble_eq_true rfl)⟩) hS hA hP hD [0] [1] rfl rfl (by decide) (by decide) (Nat.le_of_ble_eq_true rfl) (Nat.le_of_ble_eq_true rfl) (fun r_595 u H locs hw_596 hP hD hS => ?_)
  have hP : va_P D vwCl [(h1, .inr (8, [v1, v2, v3, .int 0, v4])), (h0, .inr (4, [v0, .ref h1]))] H := hP
  have hD : va_D A [(h1, .inr (8, [v1, v2, v3, .int 0, v4])), (h0, .inr (4, [v0, .ref h1]))] := hD
  subst hw_596
  have hP9 := hP.sub (ws' := [(h0, .inr (4, [v0, .ref h1])), (h1, .inr (8, [v1, v2, v3, .int 0, v4]))]) [1, 0] rfl
  have hD9 := hD.sub (ws' := [(h0, .inr (4, [v0, .ref h1])), (h1, .inr (8, [v1, v2, v3, .int 0, v4]))]) [1, 0] (by decide) rfl
  exact W.iret (v := (-1)) hx hb hr (fun t ht hW => ⟨⟨(-1), (), rfl, rfl, by rw [ht]; exact hP9, hD9⟩, hS.F ht⟩) hS.2.2 dX5_stepOf_13
