def o_X8_takeLatest : List Cond := [.fieldLink RX8 18 "EarTable$Trail" "count" "I"]
def u_X8_takeLatest : List Cond := .code yX8_takeLatest cX8_takeLatest 1 (some .boolean) :: (o_X8_takeLatest ++ (wsX80 ++ ([] : List Cond)))
theorem inw_X8_takeLatest_X8 : ∀ w ∈ wsX80, w ∈ u_X8_takeLatest := fun w h => List.mem_cons_of_mem _ (List.mem_append_right _ (List.mem_append_left _ h))
set_option maxRecDepth 20000 in
theorem good_X8_takeLatest : u_X8_takeLatest.all goodWord = true := by decide +kernel
set_option maxRecDepth 20000 in
theorem in_X8_takeLatest : ∀ w ∈ u_X8_takeLatest, w ∈ lw_tbl := ma_cons inc_X8_takeLatest (ma_app (ma_pos o_X8_takeLatest [309] (by decide +kernel)) (ma_app inb_X8 ma_nil))
set_option maxHeartbeats 4000000 in
set_option maxRecDepth 100000 in
theorem c_X8_takeLatest (l : Launch) (D : va_G) (cI cJ cZ cB : ClassId) (sz : Nat) (h0 : Nat) (v0 : Value) (v1 : Value) (v2 : Value) (v3 : Value) : Met l yX8_takeLatest u_X8_takeLatest ({ frames := 0, cells := 0, slots := 0, locals := 0 }) (va_Pc [.ref h0] (kPre D cI cJ cZ cB [(h0, .inr (7, [v0, v1, .int 0, v2, v3]))] sz)) (va_Qi (fun (r : Int32) (_ : Unit) => r = 0) (kB D (fun (u : Unit) => [(h0, .inr (7, [v0, v1, .int 0, v2, v3]))]) (va_A [(h0, .inr (7, [v0, v1, .int 0, v2, v3]))] sz)) (va_A [(h0, .inr (7, [v0, v1, .int 0, v2, v3]))] sz)) 0 0 (va_A [(h0, .inr (7, [v0, v1, .int 0, v2, v3]))] sz) := by
  refine Met.ofW (cc := cX8_takeLatest) (maxL := 1) (ret := (some .boolean)) (by decide) rfl ?_
  intro p e s m args below meth c s₁ B hml hv
  obtain ⟨rfl, hsz, hP, hK, hN, hD0⟩ := hv
  have hx := B.exec
  have hb := B.bytes
  have hr := B.returns
  have hts := atoms_spec (ws := u_X8_takeLatest) B.pre
  have hown : s.vm.findClass RX8 = some m.cls := findClass_of_methodNamed B.named
  have hlocks := B.notSynchronized
  subst hsz
  have hD := hD0.self (sz := s.heap.size)
  generalize hAe : va_A [(h0, .inr (7, [v0, v1, .int 0, v2, v3]))] s.heap.size = A at hD ⊢
  have hA : ∀ q : Nat, s.heap.size ≤ q → A q := fun q h => by rw [← hAe]; exact Or.inr h
  have hS : va_S A s.heap s.heap [] := va_S.rf
  have hP : va_P D vwCl [(h0, .inr (7, [v0, v1, .int 0, v2, v3]))] s.heap := hP
  have hl := lv_entry ([.ref h0]) (n := 1) (Nat.le_of_ble_eq_true rfl)
  rw [lg_entry_eq]
  generalize (lg_sl ([.ref h0]) ++ List.replicate (1 - (lg_sl ([.ref h0])).length) Slot.unset).toArray = ls at hl ⊢
  have hl : lv_has ls 1 [(0, .ref h0)] := hl
  obtain ⟨H, hHe⟩ : ∃ H, s.heap = H := ⟨_, rfl⟩
  have hP : va_P D vwCl [(h0, .inr (7, [v0, v1, .int 0, v2, v3]))] H := by rw [← hHe]; exact hP
  have hS : va_S A s.heap H [] := by rw [← hHe]; exact hS
  refine kn_heap hHe ?_
  refine lv_aload_n hx hb dX8_takeLatest_0 rfl (lv_at hl 0 rfl) ?_
  refine va_get (D := D) (ci := 7) (v := .int 0) (C := RX8) (T := TX8) (N := 5) hx hb hts inw_X8_takeLatest_X8 hown hK hP 0 rfl rfl 2 (by decide) (hts (.fieldLink RX8 18 "EarTable$Trail" "count" "I") (by decide +kernel)) (fun _ h9 => h9) rfl dX8_takeLatest_1 ?_
  refine lv_if_gt (tgt := 9) hx hb dX8_takeLatest_4 (by decide) (fun c_624 => ?_) (fun c_624 => ?_)
  · skip
    exact absurd c_624 (by decide)
  · skip
    refine lv_iconst (v := 0) hx hb dX8_takeLatest_7 (by decide) ?_
    have hP9 := hP.sub (ws' := [(h0, .inr (7, [v0, v1, .int 0, v2, v3]))]) [0] rfl
    have hD9 := hD.sub (ws' := [(h0, .inr (7, [v0, v1, .int 0, v2, v3]))]) [0] (by decide) rfl
    exact W.zret (v := 0) hx hb hr rfl (fun t ht hW => ⟨⟨0, (), rfl, rfl, by rw [ht]; exact hP9, hD9⟩, hS.F ht⟩) hS.2.2 dX8_takeLatest_8
def o_X11_back : List Cond := [.fieldLink RX11 69 "EarTable" "trail" "LEarTable$Trail;", .methodLink RX11 183 yX8_takeLatest, .instanceMethod yX8_takeLatest, .selects RX8 yX8_takeLatest yX8_takeLatest, .initialized RX8]
def u_X11_back : List Cond := .code yX11_back cX11_back 1 (some .int) :: (o_X11_back ++ (u_X8_takeLatest ++ (wsX110 ++ ([] : List Cond))))
theorem gs_X11_back__X8_takeLatest : GoodIn u_X11_back u_X8_takeLatest := goodIn_sub (fun w h => List.mem_cons_of_mem _ (List.mem_append_right _ (List.mem_append_left _ h))) good_X8_takeLatest
theorem inw_X11_back_X11 : ∀ w ∈ wsX110, w ∈ u_X11_back := fun w h => List.mem_cons_of_mem _ (List.mem_append_right _ (List.mem_append_right _ (List.mem_append_left _ h)))
set_option maxRecDepth 20000 in
theorem good_X11_back : u_X11_back.all goodWord = true := by decide +kernel
set_option maxRecDepth 20000 in
theorem in_X11_back : ∀ w ∈ u_X11_back, w ∈ lw_tbl := ma_cons inc_X11_back (ma_app (ma_pos o_X11_back [391, 712, 713, 714, 73] (by decide +kernel)) (ma_app in_X8_takeLatest (ma_app inb_X11 ma_nil)))
set_option maxHeartbeats 4000000 in
set_option maxRecDepth 100000 in
theorem c_X11_back (l : Launch) (D : va_G) (cI cJ cZ cB : ClassId) (sz : Nat) (h0 : Nat) (h1 : Nat) (v0 : Value) (v1 : Value) (v2 : Value) (v3 : Value) (v4 : Value) (v5 : Value) (v6 : Value) (v7 : Value) (v8 : Value) (v9 : Value) (v10 : Value) (v11 : Value) (v12 : Value) (v13 : Value) (v14 : Value) (v15 : Value) : Met l yX11_back u_X11_back ({ frames := 1, cells := 0, slots := 0, locals := 20 }) (va_Pc [.ref h0] (kPre D cI cJ cZ cB [(h0, .inr (10, [v0, v1, v2, v3, v4, v5, v6, .ref h1, v7, v8, v9, v10, v11])), (h1, .inr (7, [v12, v13, .int 0, v14, v15]))] sz)) (va_Qi (fun (r : Int32) (_ : Unit) => r = (-1)) (kB D (fun (u : Unit) => [(h0, .inr (10, [v0, v1, v2, v3, v4, v5, v6, .ref h1, v7, v8, v9, v10, v11])), (h1, .inr (7, [v12, v13, .int 0, v14, v15]))]) (va_A [(h0, .inr (10, [v0, v1, v2, v3, v4, v5, v6, .ref h1, v7, v8, v9, v10, v11])), (h1, .inr (7, [v12, v13, .int 0, v14, v15]))] sz)) (va_A [(h0, .inr (10, [v0, v1, v2, v3, v4, v5, v6, .ref h1, v7, v8, v9, v10, v11])), (h1, .inr (7, [v12, v13, .int 0, v14, v15]))] sz)) 0 0 (va_A [(h0, .inr (10, [v0, v1, v2, v3, v4, v5, v6, .ref h1, v7, v8, v9, v10, v11])), (h1, .inr (7, [v12, v13, .int 0, v14, v15]))] sz) := by
  refine Met.ofW (cc := cX11_back) (maxL := 1) (ret := (some .int)) (by decide) rfl ?_
  intro p e s m args below meth c s₁ B hml hv
  obtain ⟨rfl, hsz, hP, hK, hN, hD0⟩ := hv
  have hx := B.exec
  have hb := B.bytes
  have hr := B.returns
  have hts := atoms_spec (ws := u_X11_back) B.pre
  have hown : s.vm.findClass RX11 = some m.cls := findClass_of_methodNamed B.named
  have hlocks := B.notSynchronized
  subst hsz
  have hD := hD0.self (sz := s.heap.size)
  generalize hAe : va_A [(h0, .inr (10, [v0, v1, v2, v3, v4, v5, v6, .ref h1, v7, v8, v9, v10, v11])), (h1, .inr (7, [v12, v13, .int 0, v14, v15]))] s.heap.size = A at hD ⊢
  have hA : ∀ q : Nat, s.heap.size ≤ q → A q := fun q h => by rw [← hAe]; exact Or.inr h
  have hS : va_S A s.heap s.heap [] := va_S.rf
  have hP : va_P D vwCl [(h0, .inr (10, [v0, v1, v2, v3, v4, v5, v6, .ref h1, v7, v8, v9, v10, v11])), (h1, .inr (7, [v12, v13, .int 0, v14, v15]))] s.heap := hP
  have hl := lv_entry ([.ref h0]) (n := 1) (Nat.le_of_ble_eq_true rfl)
  rw [lg_entry_eq]
  generalize (lg_sl ([.ref h0]) ++ List.replicate (1 - (lg_sl ([.ref h0])).length) Slot.unset).toArray = ls at hl ⊢
  have hl : lv_has ls 1 [(0, .ref h0)] := hl
  obtain ⟨H, hHe⟩ : ∃ H, s.heap = H := ⟨_, rfl⟩
  have hP : va_P D vwCl [(h0, .inr (10, [v0, v1, v2, v3, v4, v5, v6, .ref h1, v7, v8, v9, v10, v11])), (h1, .inr (7, [v12, v13, .int 0, v14, v15]))] H := by rw [← hHe]; exact hP
  have hS : va_S A s.heap H [] := by rw [← hHe]; exact hS
  refine kn_heap hHe ?_
  refine lv_aload_n hx hb dX11_back_0 rfl (lv_at hl 0 rfl) ?_
  refine va_get (D := D) (ci := 10) (v := .ref h1) (C := RX11) (T := TX11) (N := 13) hx hb hts inw_X11_back_X11 hown hK hP 0 rfl rfl 7 (by decide) (hts (.fieldLink RX11 69 "EarTable" "trail" "LEarTable$Trail;") (by decide +kernel)) (fun _ h9 => h9) rfl dX11_back_1 ?_
  have hPc := hP.sub (ws' := [(h1, .inr (7, [v12, v13, .int 0, v14, v15]))]) [1] rfl
  have hDc := hD.sub (ws' := [(h1, .inr (7, [v12, v13, .int 0, v14, v15]))]) [1] (by decide) rfl
  refine kn_calli (wr := [(h0, .inr (10, [v0, v1, v2, v3, v4, v5, v6, .ref h1, v7, v8, v9, v10, v11]))]) (cells' := 0) (slots' := 0) (va_runV (As := []) (rest := []) ⟨hx, hb, hml, hown, hts⟩ (c_X8_takeLatest l D cI cJ cZ cB H.size h1 v12 v13 v14 v15) (cwV 0 hts (goodIn_app (goodIn_of _ (by decide +kernel)) gs_X11_back__X8_takeLatest) rfl rfl rfl (by decide +kernel) ⟨(Nat.le_of_ble_eq_true rfl), (Nat.le_of_ble_eq_true rfl)⟩) (kp_V 0 7 rfl rfl hPc hK hN hDc) rfl rfl hl.1 rfl (lv_room (Nat.le_of_ble_eq_true rfl)) dX11_back_4 ⟨(Nat.le_of_ble_eq_true rfl), (Nat.le_of_ble_eq_true rfl)⟩) hS hA hP hD [1] [0] rfl rfl (by decide) (by decide) (Nat.le_of_ble_eq_true rfl) (Nat.le_of_ble_eq_true rfl) (fun r_624 u H locs hw_625 hP hD hS => ?_)
  have hP : va_P D vwCl [(h0, .inr (10, [v0, v1, v2, v3, v4, v5, v6, .ref h1, v7, v8, v9, v10, v11])), (h1, .inr (7, [v12, v13, .int 0, v14, v15]))] H := hP
  have hD : va_D A [(h0, .inr (10, [v0, v1, v2, v3, v4, v5, v6, .ref h1, v7, v8, v9, v10, v11])), (h1, .inr (7, [v12, v13, .int 0, v14, v15]))] := hD
  subst hw_625
  refine lv_if_ne (tgt := 12) hx hb dX11_back_7 (by decide) (fun c_626 => ?_) (fun c_626 => ?_)
  · skip
    exact absurd rfl c_626
  · skip
    refine lv_iconst (v := (-1)) hx hb dX11_back_10 (by decide) ?_
    have hP9 := hP.sub (ws' := [(h0, .inr (10, [v0, v1, v2, v3, v4, v5, v6, .ref h1, v7, v8, v9, v10, v11])), (h1, .inr (7, [v12, v13, .int 0, v14, v15]))]) [0, 1] rfl
    have hD9 := hD.sub (ws' := [(h0, .inr (10, [v0, v1, v2, v3, v4, v5, v6, .ref h1, v7, v8, v9, v10, v11])), (h1, .inr (7, [v12, v13, .int 0, v14, v15]))]) [0, 1] (by decide) rfl
    exact W.iret (v := (-1)) hx hb hr (fun t ht hW => ⟨⟨(-1), (), rfl, rfl, by rw [ht]; exact hP9, hD9⟩, hS.F ht⟩) hS.2.2 dX11_back_11
def o_X12_back : List Cond := [.fieldLink RX12 98 "EarTableModel" "backs" "I"]
def u_X12_back : List Cond := .code yX12_back cX12_back 1 (some .int) :: (o_X12_back ++ (wsX120 ++ ([] : List Cond)))
theorem inw_X12_back_X12 : ∀ w ∈ wsX120, w ∈ u_X12_back := fun w h => List.mem_cons_of_mem _ (List.mem_append_right _ (List.mem_append_left _ h))
set_option maxRecDepth 20000 in
theorem good_X12_back : u_X12_back.all goodWord = true := by decide +kernel
set_option maxRecDepth 20000 in
theorem in_X12_back : ∀ w ∈ u_X12_back, w ∈ lw_tbl := ma_cons inc_X12_back (ma_app (ma_pos o_X12_back [1015] (by decide +kernel)) (ma_app inb_X12 ma_nil))
set_option maxHeartbeats 4000000 in
set_option maxRecDepth 100000 in
theorem c_X12_back (l : Launch) (D : va_G) (cI cJ cZ cB : ClassId) (sz : Nat) (h0 : Nat) (v0 : Value) (v1 : Value) (v2 : Value) (v3 : Value) (v4 : Value) (v5 : Value) (v6 : Value) (v7 : Value) (v8 : Value) (v9 : Value) (v10 : Value) (v11 : Value) (v12 : Value) (v13 : Value) (v14 : Value) (v15 : Value) (v16 : Value) (v17 : Value) (v18 : Value) (v19 : Value) (v20 : Value) (v21 : Value) (v22 : Value) (v23 : Value) (v24 : Value) (v25 : Value) (v26 : Value) (v27 : Value) (v28 : Value) (v29 : Value) (v30 : Value) (v31 : Value) (v32 : Value) (v33 : Value) (v34 : Value) (v35 : Value) (v36 : Value) (v37 : Value) (v38 : Value) (v39 : Value) (v40 : Value) (v41 : Value) (v42 : Value) (v43 : Value) (v44 : Value) (v45 : Value) (v46 : Value) (v47 : Value) (v48 : Value) : Met l yX12_back u_X12_back ({ frames := 0, cells := 0, slots := 0, locals := 0 }) (va_Pc [.ref h0] (kPre D cI cJ cZ cB [(h0, .inr (11, [v0, v1, v2, v3, v4, v5, v6, v7, v8, v9, v10, v11, v12, v13, v14, v15, v16, v17, v18, v19, v20, v21, v22, v23, v24, v25, v26, v27, v28, v29, v30, v31, v32, v33, v34, v35, v36, v37, v38, .int 0, v39, v40, v41, v42, v43, v44, v45, v46, v47, v48]))] sz)) (va_Qi (fun (r : Int32) (_ : Unit) => r = (-1)) (kB D (fun (u : Unit) => [(h0, .inr (11, [v0, v1, v2, v3, v4, v5, v6, v7, v8, v9, v10, v11, v12, v13, v14, v15, v16, v17, v18, v19, v20, v21, v22, v23, v24, v25, v26, v27, v28, v29, v30, v31, v32, v33, v34, v35, v36, v37, v38, .int 0, v39, v40, v41, v42, v43, v44, v45, v46, v47, v48]))]) (va_A [(h0, .inr (11, [v0, v1, v2, v3, v4, v5, v6, v7, v8, v9, v10, v11, v12, v13, v14, v15, v16, v17, v18, v19, v20, v21, v22, v23, v24, v25, v26, v27, v28, v29, v30, v31, v32, v33, v34, v35, v36, v37, v38, .int 0, v39, v40, v41, v42, v43, v44, v45, v46, v47, v48]))] sz)) (va_A [(h0, .inr (11, [v0, v1, v2, v3, v4, v5, v6, v7, v8, v9, v10, v11, v12, v13, v14, v15, v16, v17, v18, v19, v20, v21, v22, v23, v24, v25, v26, v27, v28, v29, v30, v31, v32, v33, v34, v35, v36, v37, v38, .int 0, v39, v40, v41, v42, v43, v44, v45, v46, v47, v48]))] sz)) 0 0 (va_A [(h0, .inr (11, [v0, v1, v2, v3, v4, v5, v6, v7, v8, v9, v10, v11, v12, v13, v14, v15, v16, v17, v18, v19, v20, v21, v22, v23, v24, v25, v26, v27, v28, v29, v30, v31, v32, v33, v34, v35, v36, v37, v38, .int 0, v39, v40, v41, v42, v43, v44, v45, v46, v47, v48]))] sz) := by
  refine Met.ofW (cc := cX12_back) (maxL := 1) (ret := (some .int)) (by decide) rfl ?_
  intro p e s m args below meth c s₁ B hml hv
  obtain ⟨rfl, hsz, hP, hK, hN, hD0⟩ := hv
  have hx := B.exec
  have hb := B.bytes
  have hr := B.returns
  have hts := atoms_spec (ws := u_X12_back) B.pre
  have hown : s.vm.findClass RX12 = some m.cls := findClass_of_methodNamed B.named
  have hlocks := B.notSynchronized
  subst hsz
  have hD := hD0.self (sz := s.heap.size)
  generalize hAe : va_A [(h0, .inr (11, [v0, v1, v2, v3, v4, v5, v6, v7, v8, v9, v10, v11, v12, v13, v14, v15, v16, v17, v18, v19, v20, v21, v22, v23, v24, v25, v26, v27, v28, v29, v30, v31, v32, v33, v34, v35, v36, v37, v38, .int 0, v39, v40, v41, v42, v43, v44, v45, v46, v47, v48]))] s.heap.size = A at hD ⊢
  have hA : ∀ q : Nat, s.heap.size ≤ q → A q := fun q h => by rw [← hAe]; exact Or.inr h
  have hS : va_S A s.heap s.heap [] := va_S.rf
  have hP : va_P D vwCl [(h0, .inr (11, [v0, v1, v2, v3, v4, v5, v6, v7, v8, v9, v10, v11, v12, v13, v14, v15, v16, v17, v18, v19, v20, v21, v22, v23, v24, v25, v26, v27, v28, v29, v30, v31, v32, v33, v34, v35, v36, v37, v38, .int 0, v39, v40, v41, v42, v43, v44, v45, v46, v47, v48]))] s.heap := hP
  have hl := lv_entry ([.ref h0]) (n := 1) (Nat.le_of_ble_eq_true rfl)
  rw [lg_entry_eq]
  generalize (lg_sl ([.ref h0]) ++ List.replicate (1 - (lg_sl ([.ref h0])).length) Slot.unset).toArray = ls at hl ⊢
  have hl : lv_has ls 1 [(0, .ref h0)] := hl
  obtain ⟨H, hHe⟩ : ∃ H, s.heap = H := ⟨_, rfl⟩
  have hP : va_P D vwCl [(h0, .inr (11, [v0, v1, v2, v3, v4, v5, v6, v7, v8, v9, v10, v11, v12, v13, v14, v15, v16, v17, v18, v19, v20, v21, v22, v23, v24, v25, v26, v27, v28, v29, v30, v31, v32, v33, v34, v35, v36, v37, v38, .int 0, v39, v40, v41, v42, v43, v44, v45, v46, v47, v48]))] H := by rw [← hHe]; exact hP
  have hS : va_S A s.heap H [] := by rw [← hHe]; exact hS
  refine kn_heap hHe ?_
  refine lv_aload_n hx hb dX12_back_0 rfl (lv_at hl 0 rfl) ?_
  refine va_get (D := D) (ci := 11) (v := .int 0) (C := RX12) (T := TX12) (N := 50) hx hb hts inw_X12_back_X12 hown hK hP 0 rfl rfl 39 (by decide) (hts (.fieldLink RX12 98 "EarTableModel" "backs" "I") (by decide +kernel)) (fun _ h9 => h9) rfl dX12_back_1 ?_
  refine lv_if_ne (tgt := 9) hx hb dX12_back_4 (by decide) (fun c_629 => ?_) (fun c_629 => ?_)
  · skip
    exact absurd rfl c_629
  · skip
    refine lv_iconst (v := (-1)) hx hb dX12_back_7 (by decide) ?_
    have hP9 := hP.sub (ws' := [(h0, .inr (11, [v0, v1, v2, v3, v4, v5, v6, v7, v8, v9, v10, v11, v12, v13, v14, v15, v16, v17, v18, v19, v20, v21, v22, v23, v24, v25, v26, v27, v28, v29, v30, v31, v32, v33, v34, v35, v36, v37, v38, .int 0, v39, v40, v41, v42, v43, v44, v45, v46, v47, v48]))]) [0] rfl
    have hD9 := hD.sub (ws' := [(h0, .inr (11, [v0, v1, v2, v3, v4, v5, v6, v7, v8, v9, v10, v11, v12, v13, v14, v15, v16, v17, v18, v19, v20, v21, v22, v23, v24, v25, v26, v27, v28, v29, v30, v31, v32, v33, v34, v35, v36, v37, v38, .int 0, v39, v40, v41, v42, v43, v44, v45, v46, v47, v48]))]) [0] (by decide) rfl
    exact W.iret (v := (-1)) hx hb hr (fun t ht hW => ⟨⟨(-1), (), rfl, rfl, by rw [ht]; exact hP9, hD9⟩, hS.F ht⟩) hS.2.2 dX12_back_8
def o_X11_told : List Cond := [.fieldLink RX11 62 "EarTable" "speech" "LEarTable$Speech;"]
def u_X11_told : List Cond := .code yX11_told cX11_told 3 (some .int) :: (o_X11_told ++ (wsX110 ++ (wsX40 ++ ([] : List Cond))))
theorem inw_X11_told_X11 : ∀ w ∈ wsX110, w ∈ u_X11_told := fun w h => List.mem_cons_of_mem _ (List.mem_append_right _ (List.mem_append_left _ h))
theorem inw_X11_told_X4 : ∀ w ∈ wsX40, w ∈ u_X11_told := fun w h => List.mem_cons_of_mem _ (List.mem_append_right _ (List.mem_append_right _ (List.mem_append_left _ h)))
set_option maxRecDepth 20000 in
theorem good_X11_told : u_X11_told.all goodWord = true := by decide +kernel
set_option maxRecDepth 20000 in
theorem in_X11_told : ∀ w ∈ u_X11_told, w ∈ lw_tbl := ma_cons inc_X11_told (ma_app (ma_pos o_X11_told [390] (by decide +kernel)) (ma_app inb_X11 (ma_app inb_X4 ma_nil)))
set_option maxHeartbeats 4000000 in
set_option maxRecDepth 100000 in
theorem c_X11_told (l : Launch) (D : va_G) (cI cJ cZ cB : ClassId) (sz : Nat) (h0 : Nat) (h1 : Nat) (v0 : Value) (v1 : Value) (v2 : Value) (v3 : Value) (v4 : Value) (v5 : Value) (v6 : Value) (v7 : Value) (v8 : Value) (v9 : Value) (v10 : Value) (v11 : Value) (v12 : Value) (v13 : Value) (v14 : Value) (v15 : Value) (v16 : Value) (v17 : Value) (p1 : Int32) (p2 : Int32) : Met l yX11_told u_X11_told ({ frames := 0, cells := 0, slots := 0, locals := 0 }) (va_Pc [.ref h0, .int p1, .int p2] (kPre D cI cJ cZ cB [(h0, .inr (10, [v0, v1, v2, v3, v4, v5, .ref h1, v6, v7, v8, v9, v10, v11])), (h1, .inr (3, [v12, v13, v14, v15, .int 0, v16, v17]))] sz)) (va_Qi (fun (r : Int32) (_ : Unit) => r = (-1)) (kB D (fun (u : Unit) => [(h0, .inr (10, [v0, v1, v2, v3, v4, v5, .ref h1, v6, v7, v8, v9, v10, v11])), (h1, .inr (3, [v12, v13, v14, v15, .int 0, v16, v17]))]) (va_A [(h0, .inr (10, [v0, v1, v2, v3, v4, v5, .ref h1, v6, v7, v8, v9, v10, v11])), (h1, .inr (3, [v12, v13, v14, v15, .int 0, v16, v17]))] sz)) (va_A [(h0, .inr (10, [v0, v1, v2, v3, v4, v5, .ref h1, v6, v7, v8, v9, v10, v11])), (h1, .inr (3, [v12, v13, v14, v15, .int 0, v16, v17]))] sz)) 0 0 (va_A [(h0, .inr (10, [v0, v1, v2, v3, v4, v5, .ref h1, v6, v7, v8, v9, v10, v11])), (h1, .inr (3, [v12, v13, v14, v15, .int 0, v16, v17]))] sz) := by
  refine Met.ofW (cc := cX11_told) (maxL := 3) (ret := (some .int)) (by decide) rfl ?_
  intro p e s m args below meth c s₁ B hml hv
  obtain ⟨rfl, hsz, hP, hK, hN, hD0⟩ := hv
  have hx := B.exec
  have hb := B.bytes
  have hr := B.returns
  have hts := atoms_spec (ws := u_X11_told) B.pre
  have hown : s.vm.findClass RX11 = some m.cls := findClass_of_methodNamed B.named
  have hlocks := B.notSynchronized
  subst hsz
  have hD := hD0.self (sz := s.heap.size)
  generalize hAe : va_A [(h0, .inr (10, [v0, v1, v2, v3, v4, v5, .ref h1, v6, v7, v8, v9, v10, v11])), (h1, .inr (3, [v12, v13, v14, v15, .int 0, v16, v17]))] s.heap.size = A at hD ⊢
  have hA : ∀ q : Nat, s.heap.size ≤ q → A q := fun q h => by rw [← hAe]; exact Or.inr h
  have hS : va_S A s.heap s.heap [] := va_S.rf
  have hP : va_P D vwCl [(h0, .inr (10, [v0, v1, v2, v3, v4, v5, .ref h1, v6, v7, v8, v9, v10, v11])), (h1, .inr (3, [v12, v13, v14, v15, .int 0, v16, v17]))] s.heap := hP
  have hl := lv_entry ([.ref h0, .int p1, .int p2]) (n := 3) (Nat.le_of_ble_eq_true rfl)
  rw [lg_entry_eq]
  generalize (lg_sl ([.ref h0, .int p1, .int p2]) ++ List.replicate (3 - (lg_sl ([.ref h0, .int p1, .int p2])).length) Slot.unset).toArray = ls at hl ⊢
  have hl : lv_has ls 3 [(0, .ref h0), (1, .int p1), (2, .int p2)] := hl
  obtain ⟨H, hHe⟩ : ∃ H, s.heap = H := ⟨_, rfl⟩
  have hP : va_P D vwCl [(h0, .inr (10, [v0, v1, v2, v3, v4, v5, .ref h1, v6, v7, v8, v9, v10, v11])), (h1, .inr (3, [v12, v13, v14, v15, .int 0, v16, v17]))] H := by rw [← hHe]; exact hP
  have hS : va_S A s.heap H [] := by rw [← hHe]; exact hS
  refine kn_heap hHe ?_
  refine lv_iload_n hx hb dX11_told_0 rfl (lv_at hl 1 rfl) ?_
  refine lv_if_lt (tgt := 15) hx hb dX11_told_1 (by decide) (fun c_633 => ?_) (fun c_633 => ?_)
  · skip
    refine lv_iconst (v := (-1)) hx hb dX11_told_15 (by decide) ?_
    have hP9 := hP.sub (ws' := [(h0, .inr (10, [v0, v1, v2, v3, v4, v5, .ref h1, v6, v7, v8, v9, v10, v11])), (h1, .inr (3, [v12, v13, v14, v15, .int 0, v16, v17]))]) [0, 1] rfl
    have hD9 := hD.sub (ws' := [(h0, .inr (10, [v0, v1, v2, v3, v4, v5, .ref h1, v6, v7, v8, v9, v10, v11])), (h1, .inr (3, [v12, v13, v14, v15, .int 0, v16, v17]))]) [0, 1] (by decide) rfl
    exact W.iret (v := (-1)) hx hb hr (fun t ht hW => ⟨⟨(-1), (), rfl, rfl, by rw [ht]; exact hP9, hD9⟩, hS.F ht⟩) hS.2.2 dX11_told_16
  · skip
    refine lv_iload_n hx hb dX11_told_4 rfl (lv_at hl 1 rfl) ?_
    refine lv_aload_n hx hb dX11_told_5 rfl (lv_at hl 0 rfl) ?_
    refine va_get (D := D) (ci := 10) (v := .ref h1) (C := RX11) (T := TX11) (N := 13) hx hb hts inw_X11_told_X11 hown hK hP 0 rfl rfl 6 (by decide) (hts (.fieldLink RX11 62 "EarTable" "speech" "LEarTable$Speech;") (by decide +kernel)) (fun _ h9 => h9) rfl dX11_told_6 ?_
    refine va_getN (D := D) (ci := 3) (v := .int 0) (C := RX4) (T := TX4) (N := 7) hx hb hts inw_X11_told_X4 hown hK hP 1 rfl rfl 4 (by decide) (va_Nw.use rfl (hN.1 (RX11, 195, "EarTable$Speech", "count", "I") (by decide +kernel))) (fun _ h9 => h9) rfl dX11_told_9 ?_
    refine lv_icmp_lt (tgt := 17) hx hb dX11_told_12 (by decide) (fun c_634 => ?_) (fun c_634 => ?_)
    · skip
      exfalso
      simp only [Int32.lt_iff_toInt_lt, Int32.le_iff_toInt_le] at c_633 c_634
      have k0 : (0 : Int32).toInt = 0 := by decide
      omega
    · skip
      refine lv_iconst (v := (-1)) hx hb dX11_told_15 (by decide) ?_
      have hP9 := hP.sub (ws' := [(h0, .inr (10, [v0, v1, v2, v3, v4, v5, .ref h1, v6, v7, v8, v9, v10, v11])), (h1, .inr (3, [v12, v13, v14, v15, .int 0, v16, v17]))]) [0, 1] rfl
      have hD9 := hD.sub (ws' := [(h0, .inr (10, [v0, v1, v2, v3, v4, v5, .ref h1, v6, v7, v8, v9, v10, v11])), (h1, .inr (3, [v12, v13, v14, v15, .int 0, v16, v17]))]) [0, 1] (by decide) rfl
      exact W.iret (v := (-1)) hx hb hr (fun t ht hW => ⟨⟨(-1), (), rfl, rfl, by rw [ht]; exact hP9, hD9⟩, hS.F ht⟩) hS.2.2 dX11_told_16
def o_X12_told : List Cond := [.fieldLink RX12 101 "EarTableModel" "toldMany" "I"]
def u_X12_told : List Cond := .code yX12_told cX12_told 3 (some .int) :: (o_X12_told ++ (wsX120 ++ ([] : List Cond)))
theorem inw_X12_told_X12 : ∀ w ∈ wsX120, w ∈ u_X12_told := fun w h => List.mem_cons_of_mem _ (List.mem_append_right _ (List.mem_append_left _ h))
set_option maxRecDepth 20000 in
theorem good_X12_told : u_X12_told.all goodWord = true := by decide +kernel
set_option maxRecDepth 20000 in
theorem in_X12_told : ∀ w ∈ u_X12_told, w ∈ lw_tbl := ma_cons inc_X12_told (ma_app (ma_pos o_X12_told [1012] (by decide +kernel)) (ma_app inb_X12 ma_nil))
set_option maxHeartbeats 4000000 in
set_option maxRecDepth 100000 in
theorem c_X12_told (l : Launch) (D : va_G) (cI cJ cZ cB : ClassId) (sz : Nat) (h0 : Nat) (v0 : Value) (v1 : Value) (v2 : Value) (v3 : Value) (v4 : Value) (v5 : Value) (v6 : Value) (v7 : Value) (v8 : Value) (v9 : Value) (v10 : Value) (v11 : Value) (v12 : Value) (v13 : Value) (v14 : Value) (v15 : Value) (v16 : Value) (v17 : Value) (v18 : Value) (v19 : Value) (v20 : Value) (v21 : Value) (v22 : Value) (v23 : Value) (v24 : Value) (v25 : Value) (v26 : Value) (v27 : Value) (v28 : Value) (v29 : Value) (v30 : Value) (v31 : Value) (v32 : Value) (v33 : Value) (v34 : Value) (v35 : Value) (v36 : Value) (v37 : Value) (v38 : Value) (v39 : Value) (v40 : Value) (v41 : Value) (v42 : Value) (v43 : Value) (v44 : Value) (v45 : Value) (v46 : Value) (v47 : Value) (v48 : Value) (p1 : Int32) (p2 : Int32) : Met l yX12_told u_X12_told ({ frames := 0, cells := 0, slots := 0, locals := 0 }) (va_Pc [.ref h0, .int p1, .int p2] (kPre D cI cJ cZ cB [(h0, .inr (11, [v0, v1, v2, v3, v4, v5, v6, v7, v8, v9, v10, v11, v12, v13, v14, v15, v16, v17, v18, v19, v20, v21, v22, v23, v24, v25, v26, v27, v28, v29, v30, v31, v32, v33, v34, v35, .int 0, v36, v37, v38, v39, v40, v41, v42, v43, v44, v45, v46, v47, v48]))] sz)) (va_Qi (fun (r : Int32) (_ : Unit) => r = (-1)) (kB D (fun (u : Unit) => [(h0, .inr (11, [v0, v1, v2, v3, v4, v5, v6, v7, v8, v9, v10, v11, v12, v13, v14, v15, v16, v17, v18, v19, v20, v21, v22, v23, v24, v25, v26, v27, v28, v29, v30, v31, v32, v33, v34, v35, .int 0, v36, v37, v38, v39, v40, v41, v42, v43, v44, v45, v46, v47, v48]))]) (va_A [(h0, .inr (11, [v0, v1, v2, v3, v4, v5, v6, v7, v8, v9, v10, v11, v12, v13, v14, v15, v16, v17, v18, v19, v20, v21, v22, v23, v24, v25, v26, v27, v28, v29, v30, v31, v32, v33, v34, v35, .int 0, v36, v37, v38, v39, v40, v41, v42, v43, v44, v45, v46, v47, v48]))] sz)) (va_A [(h0, .inr (11, [v0, v1, v2, v3, v4, v5, v6, v7, v8, v9, v10, v11, v12, v13, v14, v15, v16, v17, v18, v19, v20, v21, v22, v23, v24, v25, v26, v27, v28, v29, v30, v31, v32, v33, v34, v35, .int 0, v36, v37, v38, v39, v40, v41, v42, v43, v44, v45, v46, v47, v48]))] sz)) 0 0 (va_A [(h0, .inr (11, [v0, v1, v2, v3, v4, v5, v6, v7, v8, v9, v10, v11, v12, v13, v14, v15, v16, v17, v18, v19, v20, v21, v22, v23, v24, v25, v26, v27, v28, v29, v30, v31, v32, v33, v34, v35, .int 0, v36, v37, v38, v39, v40, v41, v42, v43, v44, v45, v46, v47, v48]))] sz) := by
  refine Met.ofW (cc := cX12_told) (maxL := 3) (ret := (some .int)) (by decide) rfl ?_
  intro p e s m args below meth c s₁ B hml hv
  obtain ⟨rfl, hsz, hP, hK, hN, hD0⟩ := hv
  have hx := B.exec
  have hb := B.bytes
  have hr := B.returns
  have hts := atoms_spec (ws := u_X12_told) B.pre
  have hown : s.vm.findClass RX12 = some m.cls := findClass_of_methodNamed B.named
  have hlocks := B.notSynchronized
  subst hsz
  have hD := hD0.self (sz := s.heap.size)
  generalize hAe : va_A [(h0, .inr (11, [v0, v1, v2, v3, v4, v5, v6, v7, v8, v9, v10, v11, v12, v13, v14, v15, v16, v17, v18, v19, v20, v21, v22, v23, v24, v25, v26, v27, v28, v29, v30, v31, v32, v33, v34, v35, .int 0, v36, v37, v38, v39, v40, v41, v42, v43, v44, v45, v46, v47, v48]))] s.heap.size = A at hD ⊢
  have hA : ∀ q : Nat, s.heap.size ≤ q → A q := fun q h => by rw [← hAe]; exact Or.inr h
  have hS : va_S A s.heap s.heap [] := va_S.rf
  have hP : va_P D vwCl [(h0, .inr (11, [v0, v1, v2, v3, v4, v5, v6, v7, v8, v9, v10, v11, v12, v13, v14, v15, v16, v17, v18, v19, v20, v21, v22, v23, v24, v25, v26, v27, v28, v29, v30, v31, v32, v33, v34, v35, .int 0, v36, v37, v38, v39, v40, v41, v42, v43, v44, v45, v46, v47, v48]))] s.heap := hP
  have hl := lv_entry ([.ref h0, .int p1, .int p2]) (n := 3) (Nat.le_of_ble_eq_true rfl)
  rw [lg_entry_eq]
  generalize (lg_sl ([.ref h0, .int p1, .int p2]) ++ List.replicate (3 - (lg_sl ([.ref h0, .int p1, .int p2])).length) Slot.unset).toArray = ls at hl ⊢
  have hl : lv_has ls 3 [(0, .ref h0), (1, .int p1), (2, .int p2)] := hl
  obtain ⟨H, hHe⟩ : ∃ H, s.heap = H := ⟨_, rfl⟩
  have hP : va_P D vwCl [(h0, .inr (11, [v0, v1, v2, v3, v4, v5, v6, v7, v8, v9, v10, v11, v12, v13, v14, v15, v16, v17, v18, v19, v20, v21, v22, v23, v24, v25, v26, v27, v28, v29, v30, v31, v32, v33, v34, v35, .int 0, v36, v37, v38, v39, v40, v41, v42, v43, v44, v45, v46, v47, v48]))] H := by rw [← hHe]; exact hP
  have hS : va_S A s.heap H [] := by rw [← hHe]; exact hS
  refine kn_heap hHe ?_
  refine lv_iload_n hx hb dX12_told_0 rfl (lv_at hl 1 rfl) ?_
  refine lv_if_lt (tgt := 12) hx hb dX12_told_1 (by decide) (fun c_637 => ?_) (fun c_637 => ?_)
  · skip
    refine lv_iconst (v := (-1)) hx hb dX12_told_12 (by decide) ?_
    have hP9 := hP.sub (ws' := [(h0, .inr (11, [v0, v1, v2, v3, v4, v5, v6, v7, v8, v9, v10, v11, v12, v13, v14, v15, v16, v17, v18, v19, v20, v21, v22, v23, v24, v25, v26, v27, v28, v29, v30, v31, v32, v33, v34, v35, .int 0, v36, v37, v38, v39, v40, v41, v42, v43, v44, v45, v46, v47, v48]))]) [0] rfl
    have hD9 := hD.sub (ws' := [(h0, .inr (11, [v0, v1, v2, v3, v4, v5, v6, v7, v8, v9, v10, v11, v12, v13, v14, v15, v16, v17, v18, v19, v20, v21, v22, v23, v24, v25, v26, v27, v28, v29, v30, v31, v32, v33, v34, v35, .int 0, v36, v37, v38, v39, v40, v41, v42, v43, v44, v45, v46, v47, v48]))]) [0] (by decide) rfl
    exact W.iret (v := (-1)) hx hb hr (fun t ht hW => ⟨⟨(-1), (), rfl, rfl, by rw [ht]; exact hP9, hD9⟩, hS.F ht⟩) hS.2.2 dX12_told_13
  · skip
    refine lv_iload_n hx hb dX12_told_4 rfl (lv_at hl 1 rfl) ?_
    refine lv_aload_n hx hb dX12_told_5 rfl (lv_at hl 0 rfl) ?_
    refine va_get (D := D) (ci := 11) (v := .int 0) (C := RX12) (T := TX12) (N := 50) hx hb hts inw_X12_told_X12 hown hK hP 0 rfl rfl 36 (by decide) (hts (.fieldLink RX12 101 "EarTableModel" "toldMany" "I") (by decide +kernel)) (fun _ h9 => h9) rfl dX12_told_6 ?_
    refine lv_icmp_lt (tgt := 14) hx hb dX12_told_9 (by decide) (fun c_638 => ?_) (fun c_638 => ?_)
    · skip
      exfalso
      simp only [Int32.lt_iff_toInt_lt, Int32.le_iff_toInt_le] at c_637 c_638
      have k0 : (0 : Int32).toInt = 0 := by decide
      omega
    · skip
      refine lv_iconst (v := (-1)) hx hb dX12_told_12 (by decide) ?_
      have hP9 := hP.sub (ws' := [(h0, .inr (11, [v0, v1, v2, v3, v4, v5, v6, v7, v8, v9, v10, v11, v12, v13, v14, v15, v16, v17, v18, v19, v20, v21, v22, v23, v24, v25, v26, v27, v28, v29, v30, v31, v32, v33, v34, v35, .int 0, v36, v37, v38, v39, v40, v41, v42, v43, v44, v45, v46, v47, v48]))]) [0] rfl
      have hD9 := hD.sub (ws' := [(h0, .inr (11, [v0, v1, v2, v3, v4, v5, v6, v7, v8, v9, v10, v11, v12, v13, v14, v15, v16, v17, v18, v19, v20, v21, v22, v23, v24, v25, v26, v27, v28, v29, v30, v31, v32, v33, v34, v35, .int 0, v36, v37, v38, v39, v40, v41, v42, v43, v44, v45, v46, v47, v48]))]) [0] (by decide) rfl
      exact W.iret (v := (-1)) hx hb hr (fun t ht hW => ⟨⟨(-1), (), rfl, rfl, by rw [ht]; exact hP9, hD9⟩, hS.F ht⟩) hS.2.2 dX12_told_13
def o_X11_mark : List Cond := [.fieldLink RX11 165 "EarTable" "placeLine" "I"]
def u_X11_mark : List Cond := .code yX11_mark cX11_mark 2 (some .boolean) :: (o_X11_mark ++ (wsX110 ++ ([] : List Cond)))
theorem inw_X11_mark_X11 : ∀ w ∈ wsX110, w ∈ u_X11_mark := fun w h => List.mem_cons_of_mem _ (List.mem_append_right _ (List.mem_append_left _ h))
set_option maxRecDepth 20000 in
theorem good_X11_mark : u_X11_mark.all goodWord = true := by decide +kernel
set_option maxRecDepth 20000 in
theorem in_X11_mark : ∀ w ∈ u_X11_mark, w ∈ lw_tbl := ma_cons inc_X11_mark (ma_app (ma_pos o_X11_mark [395] (by decide +kernel)) (ma_app inb_X11 ma_nil))
set_option maxHeartbeats 4000000 in
set_option maxRecDepth 100000 in
theorem c_X11_mark (l : Launch) (D : va_G) (cI cJ cZ cB : ClassId) (sz : Nat) (h0 : Nat) (v0 : Value) (v1 : Value) (v2 : Value) (v3 : Value) (v4 : Value) (v5 : Value) (v6 : Value) (v7 : Value) (v8 : Value) (v9 : Value) (v10 : Value) (v11 : Value) (p1 : Int32) : Met l yX11_mark u_X11_mark ({ frames := 0, cells := 0, slots := 0, locals := 0 }) (va_Pc [.ref h0, .int p1] (kPre D cI cJ cZ cB [(h0, .inr (10, [v0, v1, v2, v3, v4, v5, v6, v7, v8, v9, v10, .int (-1), v11]))] sz)) (va_Qi (fun (r : Int32) (_ : Unit) => r = 0) (kB D (fun (u : Unit) => [(h0, .inr (10, [v0, v1, v2, v3, v4, v5, v6, v7, v8, v9, v10, .int (-1), v11]))]) (va_A [(h0, .inr (10, [v0, v1, v2, v3, v4, v5, v6, v7, v8, v9, v10, .int (-1), v11]))] sz)) (va_A [(h0, .inr (10, [v0, v1, v2, v3, v4, v5, v6, v7, v8, v9, v10, .int (-1), v11]))] sz)) 0 0 (va_A [(h0, .inr (10, [v0, v1, v2, v3, v4, v5, v6, v7, v8, v9, v10, .int (-1), v11]))] sz) := by
  refine Met.ofW (cc := cX11_mark) (maxL := 2) (ret := (some .boolean)) (by decide) rfl ?_
  intro p e s m args below meth c s₁ B hml hv
  obtain ⟨rfl, hsz, hP, hK, hN, hD0⟩ := hv
  have hx := B.exec
  have hb := B.bytes
  have hr := B.returns
  have hts := atoms_spec (ws := u_X11_mark) B.pre
  have hown : s.vm.findClass RX11 = some m.cls := findClass_of_methodNamed B.named
  have hlocks := B.notSynchronized
  subst hsz
  have hD := hD0.self (sz := s.heap.size)
  generalize hAe : va_A [(h0, .inr (10, [v0, v1, v2, v3, v4, v5, v6, v7, v8, v9, v10, .int (-1), v11]))] s.heap.size = A at hD ⊢
  have hA : ∀ q : Nat, s.heap.size ≤ q → A q := fun q h => by rw [← hAe]; exact Or.inr h
  have hS : va_S A s.heap s.heap [] := va_S.rf
  have hP : va_P D vwCl [(h0, .inr (10, [v0, v1, v2, v3, v4, v5, v6, v7, v8, v9, v10, .int (-1), v11]))] s.heap := hP
  have hl := lv_entry ([.ref h0, .int p1]) (n := 2) (Nat.le_of_ble_eq_true rfl)
  rw [lg_entry_eq]
  generalize (lg_sl ([.ref h0, .int p1]) ++ List.replicate (2 - (lg_sl ([.ref h0, .int p1])).length) Slot.unset).toArray = ls at hl ⊢
  have hl : lv_has ls 2 [(0, .ref h0), (1, .int p1)] := hl
  obtain ⟨H, hHe⟩ : ∃ H, s.heap = H := ⟨_, rfl⟩
  have hP : va_P D vwCl [(h0, .inr (10, [v0, v1, v2, v3, v4, v5, v6, v7, v8, v9, v10, .int (-1), v11]))] H := by rw [← hHe]; exact hP
  have hS : va_S A s.heap H [] := by rw [← hHe]; exact hS
  refine kn_heap hHe ?_
  refine lv_iload_n hx hb dX11_mark_0 rfl (lv_at hl 1 rfl) ?_
  refine lv_if_lt (tgt := 17) hx hb dX11_mark_1 (by decide) (fun c_642 => ?_) (fun c_642 => ?_)
  · skip
    refine lv_iconst (v := 0) hx hb dX11_mark_17 (by decide) ?_
    have hP9 := hP.sub (ws' := [(h0, .inr (10, [v0, v1, v2, v3, v4, v5, v6, v7, v8, v9, v10, .int (-1), v11]))]) [0] rfl
    have hD9 := hD.sub (ws' := [(h0, .inr (10, [v0, v1, v2, v3, v4, v5, v6, v7, v8, v9, v10, .int (-1), v11]))]) [0] (by decide) rfl
    exact W.zret (v := 0) hx hb hr rfl (fun t ht hW => ⟨⟨0, (), rfl, rfl, by rw [ht]; exact hP9, hD9⟩, hS.F ht⟩) hS.2.2 dX11_mark_18
  · skip
    refine lv_iload_n hx hb dX11_mark_4 rfl (lv_at hl 1 rfl) ?_
    refine lv_iconst (v := 5) hx hb dX11_mark_5 (by decide) ?_
    refine lv_icmp_ge (tgt := 17) hx hb dX11_mark_6 (by decide) (fun c_643 => ?_) (fun c_643 => ?_)
    · skip
      refine lv_iconst (v := 0) hx hb dX11_mark_17 (by decide) ?_
      have hP9 := hP.sub (ws' := [(h0, .inr (10, [v0, v1, v2, v3, v4, v5, v6, v7, v8, v9, v10, .int (-1), v11]))]) [0] rfl
      have hD9 := hD.sub (ws' := [(h0, .inr (10, [v0, v1, v2, v3, v4, v5, v6, v7, v8, v9, v10, .int (-1), v11]))]) [0] (by decide) rfl
      exact W.zret (v := 0) hx hb hr rfl (fun t ht hW => ⟨⟨0, (), rfl, rfl, by rw [ht]; exact hP9, hD9⟩, hS.F ht⟩) hS.2.2 dX11_mark_18
    · skip
      refine lv_aload_n hx hb dX11_mark_9 rfl (lv_at hl 0 rfl) ?_
      refine va_get (D := D) (ci := 10) (v := .int (-1)) (C := RX11) (T := TX11) (N := 13) hx hb hts inw_X11_mark_X11 hown hK hP 0 rfl rfl 11 (by decide) (hts (.fieldLink RX11 165 "EarTable" "placeLine" "I") (by decide +kernel)) (fun _ h9 => h9) rfl dX11_mark_10 ?_
      refine lv_iconst (v := (-1)) hx hb dX11_mark_13 (by decide) ?_
      refine lv_icmp_ne (tgt := 19) hx hb dX11_mark_14 (by decide) (fun c_644 => ?_) (fun c_644 => ?_)
      · skip
        exact absurd rfl c_644
      · skip
        refine lv_iconst (v := 0) hx hb dX11_mark_17 (by decide) ?_
        have hP9 := hP.sub (ws' := [(h0, .inr (10, [v0, v1, v2, v3, v4, v5, v6, v7, v8, v9, v10, .int (-1), v11]))]) [0] rfl
        have hD9 := hD.sub (ws' := [(h0, .inr (10, [v0, v1, v2, v3, v4, v5, v6, v7, v8, v9, v10, .int (-1), v11]))]) [0] (by decide) rfl
        exact W.zret (v := 0) hx hb hr rfl (fun t ht hW => ⟨⟨0, (), rfl, rfl, by rw [ht]; exact hP9, hD9⟩, hS.F ht⟩) hS.2.2 dX11_mark_18
