def o_X11_whole : List Cond := [.fieldLink RX11 37 "EarTable" "view" "LEarTable$View;", .methodLink RX11 159 yX9_takeAll, .instanceMethod yX9_takeAll, .selects RX9 yX9_takeAll yX9_takeAll, .initialized RX9, .methodLink RX11 151 yX11_settleInView, .instanceMethod yX11_settleInView, .selects RX11 yX11_settleInView yX11_settleInView, .initialized RX11]
def u_X11_whole : List Cond := .code yX11_whole cX11_whole 1 (some .int) :: (o_X11_whole ++ (u_X9_takeAll ++ (u_X11_settleInView ++ (wsX110 ++ ([] : List Cond)))))
theorem gs_X11_whole__X9_takeAll : GoodIn u_X11_whole u_X9_takeAll := goodIn_sub (fun w h => List.mem_cons_of_mem _ (List.mem_append_right _ (List.mem_append_left _ h))) good_X9_takeAll
theorem gs_X11_whole__X11_settleInView : GoodIn u_X11_whole u_X11_settleInView := goodIn_sub (fun w h => List.mem_cons_of_mem _ (List.mem_append_right _ (List.mem_append_right _ (List.mem_append_left _ h)))) good_X11_settleInView
theorem inw_X11_whole_X11 : ∀ w ∈ wsX110, w ∈ u_X11_whole := fun w h => List.mem_cons_of_mem _ (List.mem_append_right _ (List.mem_append_right _ (List.mem_append_right _ (List.mem_append_left _ h))))
set_option maxRecDepth 20000 in
theorem good_X11_whole : u_X11_whole.all goodWord = true := by decide +kernel
set_option maxRecDepth 20000 in
theorem in_X11_whole : ∀ w ∈ u_X11_whole, w ∈ lw_tbl := ma_cons inc_X11_whole (ma_app (ma_pos o_X11_whole [387, 353, 354, 355, 69, 364, 366, 2, 64] (by decide +kernel)) (ma_app in_X9_takeAll (ma_app in_X11_settleInView (ma_app inb_X11 ma_nil))))
set_option maxHeartbeats 4000000 in
set_option maxRecDepth 100000 in
theorem c_X11_whole (l : Launch) (D : va_G) (cI cJ cZ cB : ClassId) (sz : Nat) (h0 : Nat) (h1 : Nat) (h2 : Nat) (h3 : Nat) (h4 : Nat) (h5 : Nat) (h6 : Nat) (v0 : Value) (v1 : Value) (v2 : Value) (v3 : Value) (v4 : Value) (v5 : Value) (v6 : Value) (v7 : Value) (v8 : Value) (v9 : Value) (f10 : Nat → Int32) (f11 : Nat → Int32) (v12 : Value) (v13 : Value) (v14 : Value) (v15 : Value) (v16 : Value) (v17 : Value) (v18 : Value) (v19 : Value) (v20 : Value) (v21 : Value) (v22 : Value) (v23 : Value) (v24 : Value) (v25 : Value) (v26 : Value) (v27 : Value) (v28 : Value) (v29 : Value) (v30 : Value) : Met l yX11_whole u_X11_whole ({ frames := 3, cells := 0, slots := 0, locals := 81 }) (va_Pc [.ref h0] (kPre D cI cJ cZ cB [(h0, .inr (10, [v0, v1, v2, .ref h1, v3, v4, .ref h6, .ref h5, v5, v6, v7, .int (-1), v8])), (h1, .inr (8, [.ref h4, .ref h2, .ref h3, .int 0, v9])), (h2, .inl (cI, 30, .inl f10)), (h3, .inl (cI, 30, .inl f11)), (h4, .inr (1, [v12, v13, v14, v15, v16, v17, .int 0, v18])), (h5, .inr (7, [v19, v20, v21, v22, v23])), (h6, .inr (3, [v24, v25, v26, v27, v28, v29, v30]))] sz)) (va_Qi (fun (r : Int32) (_ : (Nat → Int32)) => r = 0) (kB D (fun (u : (Nat → Int32)) => [(h0, .inr (10, [v0, v1, v2, .ref h1, v3, v4, .ref h6, .ref h5, v5, v6, v7, .int (-1), v8])), (h1, .inr (8, [.ref h4, .ref h2, .ref h3, .int 0, .int 0])), (h2, .inl (cI, 30, .inl f10)), (h3, .inl (cI, 30, .inl u)), (h4, .inr (1, [v12, v13, v14, v15, v16, v17, .int 0, v18])), (h5, .inr (7, [v19, v20, .int 0, v22, v23])), (h6, .inr (3, [v24, v25, v26, v27, v28, .int (-1), .int (-1)]))]) (va_A [(h0, .inr (10, [v0, v1, v2, .ref h1, v3, v4, .ref h6, .ref h5, v5, v6, v7, .int (-1), v8])), (h1, .inr (8, [.ref h4, .ref h2, .ref h3, .int 0, v9])), (h2, .inl (cI, 30, .inl f10)), (h3, .inl (cI, 30, .inl f11)), (h4, .inr (1, [v12, v13, v14, v15, v16, v17, .int 0, v18])), (h5, .inr (7, [v19, v20, v21, v22, v23])), (h6, .inr (3, [v24, v25, v26, v27, v28, v29, v30]))] sz)) (va_A [(h0, .inr (10, [v0, v1, v2, .ref h1, v3, v4, .ref h6, .ref h5, v5, v6, v7, .int (-1), v8])), (h1, .inr (8, [.ref h4, .ref h2, .ref h3, .int 0, v9])), (h2, .inl (cI, 30, .inl f10)), (h3, .inl (cI, 30, .inl f11)), (h4, .inr (1, [v12, v13, v14, v15, v16, v17, .int 0, v18])), (h5, .inr (7, [v19, v20, v21, v22, v23])), (h6, .inr (3, [v24, v25, v26, v27, v28, v29, v30]))] sz)) 0 0 (va_A [(h0, .inr (10, [v0, v1, v2, .ref h1, v3, v4, .ref h6, .ref h5, v5, v6, v7, .int (-1), v8])), (h1, .inr (8, [.ref h4, .ref h2, .ref h3, .int 0, v9])), (h2, .inl (cI, 30, .inl f10)), (h3, .inl (cI, 30, .inl f11)), (h4, .inr (1, [v12, v13, v14, v15, v16, v17, .int 0, v18])), (h5, .inr (7, [v19, v20, v21, v22, v23])), (h6, .inr (3, [v24, v25, v26, v27, v28, v29, v30]))] sz) := by
  refine Met.ofW (cc := cX11_whole) (maxL := 1) (ret := (some .int)) (by decide) rfl ?_
  intro p e s m args below meth c s₁ B hml hv
  obtain ⟨rfl, hsz, hP, hK, hN, hD0⟩ := hv
  have hx := B.exec
  have hb := B.bytes
  have hr := B.returns
  have hts := atoms_spec (ws := u_X11_whole) B.pre
  have hown : s.vm.findClass RX11 = some m.cls := findClass_of_methodNamed B.named
  have hlocks := B.notSynchronized
  subst hsz
  have hD := hD0.self (sz := s.heap.size)
  generalize hAe : va_A [(h0, .inr (10, [v0, v1, v2, .ref h1, v3, v4, .ref h6, .ref h5, v5, v6, v7, .int (-1), v8])), (h1, .inr (8, [.ref h4, .ref h2, .ref h3, .int 0, v9])), (h2, .inl (cI, 30, .inl f10)), (h3, .inl (cI, 30, .inl f11)), (h4, .inr (1, [v12, v13, v14, v15, v16, v17, .int 0, v18])), (h5, .inr (7, [v19, v20, v21, v22, v23])), (h6, .inr (3, [v24, v25, v26, v27, v28, v29, v30]))] s.heap.size = A at hD ⊢
  have hA : ∀ q : Nat, s.heap.size ≤ q → A q := fun q h => by rw [← hAe]; exact Or.inr h
  have hS : va_S A s.heap s.heap [] := va_S.rf
  have hP : va_P D vwCl [(h0, .inr (10, [v0, v1, v2, .ref h1, v3, v4, .ref h6, .ref h5, v5, v6, v7, .int (-1), v8])), (h1, .inr (8, [.ref h4, .ref h2, .ref h3, .int 0, v9])), (h2, .inl (cI, 30, .inl f10)), (h3, .inl (cI, 30, .inl f11)), (h4, .inr (1, [v12, v13, v14, v15, v16, v17, .int 0, v18])), (h5, .inr (7, [v19, v20, v21, v22, v23])), (h6, .inr (3, [v24, v25, v26, v27, v28, v29, v30]))] s.heap := hP
  have hl := lv_entry ([.ref h0]) (n := 1) (Nat.le_of_ble_eq_true rfl)
  rw [lg_entry_eq]
  generalize (lg_sl ([.ref h0]) ++ List.replicate (1 - (lg_sl ([.ref h0])).length) Slot.unset).toArray = ls at hl ⊢
  have hl : lv_has ls 1 [(0, .ref h0)] := hl
  obtain ⟨H, hHe⟩ : ∃ H, s.heap = H := ⟨_, rfl⟩
  have hP : va_P D vwCl [(h0, .inr (10, [v0, v1, v2, .ref h1, v3, v4, .ref h6, .ref h5, v5, v6, v7, .int (-1), v8])), (h1, .inr (8, [.ref h4, .ref h2, .ref h3, .int 0, v9])), (h2, .inl (cI, 30, .inl f10)), (h3, .inl (cI, 30, .inl f11)), (h4, .inr (1, [v12, v13, v14, v15, v16, v17, .int 0, v18])), (h5, .inr (7, [v19, v20, v21, v22, v23])), (h6, .inr (3, [v24, v25, v26, v27, v28, v29, v30]))] H := by rw [← hHe]; exact hP
  have hS : va_S A s.heap H [] := by rw [← hHe]; exact hS
  refine kn_heap hHe ?_
  refine lv_aload_n hx hb dX11_whole_0 rfl (lv_at hl 0 rfl) ?_
  refine va_get (D := D) (ci := 10) (v := .ref h1) (C := RX11) (T := TX11) (N := 13) hx hb hts inw_X11_whole_X11 hown hK hP 0 rfl rfl 3 (by decide) (hts (.fieldLink RX11 37 "EarTable" "view" "LEarTable$View;") (by decide +kernel)) (fun _ h9 => h9) rfl dX11_whole_1 ?_
  have hPc := hP.sub (ws' := [(h1, .inr (8, [.ref h4, .ref h2, .ref h3, .int 0, v9])), (h2, .inl (cI, 30, .inl f10)), (h3, .inl (cI, 30, .inl f11)), (h4, .inr (1, [v12, v13, v14, v15, v16, v17, .int 0, v18]))]) [1, 2, 3, 4] rfl
  have hDc := hD.sub (ws' := [(h1, .inr (8, [.ref h4, .ref h2, .ref h3, .int 0, v9])), (h2, .inl (cI, 30, .inl f10)), (h3, .inl (cI, 30, .inl f11)), (h4, .inr (1, [v12, v13, v14, v15, v16, v17, .int 0, v18]))]) [1, 2, 3, 4] (by decide) rfl
  refine kn_callv (wr := [(h0, .inr (10, [v0, v1, v2, .ref h1, v3, v4, .ref h6, .ref h5, v5, v6, v7, .int (-1), v8])), (h5, .inr (7, [v19, v20, v21, v22, v23])), (h6, .inr (3, [v24, v25, v26, v27, v28, v29, v30]))]) (cells' := 0) (slots' := 0) (va_runV (As := []) (rest := []) ⟨hx, hb, hml, hown, hts⟩ (c_X9_takeAll l D cI cJ cZ cB H.size h1 h2 h3 h4 v9 f10 f11 v12 v13 v14 v15 v16 v17 v18) (cwV 0 hts (goodIn_app (goodIn_of _ (by decide +kernel)) gs_X11_whole__X9_takeAll) rfl rfl rfl (by decide +kernel) ⟨(Nat.le_of_ble_eq_true rfl), (Nat.le_of_ble_eq_true rfl)⟩) (kp_V 0 8 rfl rfl hPc hK hN hDc) rfl rfl hl.1 rfl (lv_room (Nat.le_of_ble_eq_true rfl)) dX11_whole_4 ⟨(Nat.le_of_ble_eq_true rfl), (Nat.le_of_ble_eq_true rfl)⟩) hS hA hP hD [1, 2, 3, 4] [0, 5, 6] rfl rfl (by decide) (by decide) (Nat.le_of_ble_eq_true rfl) (Nat.le_of_ble_eq_true rfl) (fun u H locs hw_562 hP hD hS => ?_)
  obtain ⟨f_563, rfl⟩ : ∃ z, z = u := ⟨_, rfl⟩
  have hP : va_P D vwCl [(h0, .inr (10, [v0, v1, v2, .ref h1, v3, v4, .ref h6, .ref h5, v5, v6, v7, .int (-1), v8])), (h5, .inr (7, [v19, v20, v21, v22, v23])), (h6, .inr (3, [v24, v25, v26, v27, v28, v29, v30])), (h1, .inr (8, [.ref h4, .ref h2, .ref h3, .int 0, .int 0])), (h2, .inl (cI, 30, .inl f10)), (h3, .inl (cI, 30, .inl f_563)), (h4, .inr (1, [v12, v13, v14, v15, v16, v17, .int 0, v18]))] H := hP
  have hD : va_D A [(h0, .inr (10, [v0, v1, v2, .ref h1, v3, v4, .ref h6, .ref h5, v5, v6, v7, .int (-1), v8])), (h5, .inr (7, [v19, v20, v21, v22, v23])), (h6, .inr (3, [v24, v25, v26, v27, v28, v29, v30])), (h1, .inr (8, [.ref h4, .ref h2, .ref h3, .int 0, .int 0])), (h2, .inl (cI, 30, .inl f10)), (h3, .inl (cI, 30, .inl f_563)), (h4, .inr (1, [v12, v13, v14, v15, v16, v17, .int 0, v18]))] := hD
  refine lv_aload_n hx hb dX11_whole_7 rfl (lv_at hl 0 rfl) ?_
  have hPc := hP.sub (ws' := [(h0, .inr (10, [v0, v1, v2, .ref h1, v3, v4, .ref h6, .ref h5, v5, v6, v7, .int (-1), v8])), (h1, .inr (8, [.ref h4, .ref h2, .ref h3, .int 0, .int 0])), (h5, .inr (7, [v19, v20, v21, v22, v23])), (h6, .inr (3, [v24, v25, v26, v27, v28, v29, v30]))]) [0, 3, 1, 2] rfl
  have hDc := hD.sub (ws' := [(h0, .inr (10, [v0, v1, v2, .ref h1, v3, v4, .ref h6, .ref h5, v5, v6, v7, .int (-1), v8])), (h1, .inr (8, [.ref h4, .ref h2, .ref h3, .int 0, .int 0])), (h5, .inr (7, [v19, v20, v21, v22, v23])), (h6, .inr (3, [v24, v25, v26, v27, v28, v29, v30]))]) [0, 3, 1, 2] (by decide) rfl
  refine kn_calli (wr := [(h2, .inl (cI, 30, .inl f10)), (h3, .inl (cI, 30, .inl f_563)), (h4, .inr (1, [v12, v13, v14, v15, v16, v17, .int 0, v18]))]) (cells' := 0) (slots' := 0) (va_runV (As := []) (rest := []) ⟨hx, hb, hml, hown, hts⟩ (c_X11_settleInView l D cI cJ cZ cB H.size h0 h1 h5 h6 v0 v1 v2 v3 v4 v5 v6 v7 v8 (.ref h4) (.ref h2) (.ref h3) (.int 0) v19 v20 v21 v22 v23 v24 v25 v26 v27 v28 v29 v30) (cwV 0 hts (goodIn_app (goodIn_of _ (by decide +kernel)) gs_X11_whole__X11_settleInView) rfl rfl rfl (by decide +kernel) ⟨(Nat.le_of_ble_eq_true rfl), (Nat.le_of_ble_eq_true rfl)⟩) (kp_V 0 10 rfl rfl hPc hK hN hDc) rfl rfl hl.1 rfl (lv_room (Nat.le_of_ble_eq_true rfl)) dX11_whole_8 ⟨(Nat.le_of_ble_eq_true rfl), (Nat.le_of_ble_eq_true rfl)⟩) hS hA hP hD [0, 3, 1, 2] [4, 5, 6] rfl rfl (by decide) (by decide) (Nat.le_of_ble_eq_true rfl) (Nat.le_of_ble_eq_true rfl) (fun r_564 u H locs hw_565 hP hD hS => ?_)
  have hP : va_P D vwCl [(h2, .inl (cI, 30, .inl f10)), (h3, .inl (cI, 30, .inl f_563)), (h4, .inr (1, [v12, v13, v14, v15, v16, v17, .int 0, v18])), (h0, .inr (10, [v0, v1, v2, .ref h1, v3, v4, .ref h6, .ref h5, v5, v6, v7, .int (-1), v8])), (h1, .inr (8, [.ref h4, .ref h2, .ref h3, .int 0, .int 0])), (h5, .inr (7, [v19, v20, .int 0, v22, v23])), (h6, .inr (3, [v24, v25, v26, v27, v28, .int (-1), .int (-1)]))] H := hP
  have hD : va_D A [(h2, .inl (cI, 30, .inl f10)), (h3, .inl (cI, 30, .inl f_563)), (h4, .inr (1, [v12, v13, v14, v15, v16, v17, .int 0, v18])), (h0, .inr (10, [v0, v1, v2, .ref h1, v3, v4, .ref h6, .ref h5, v5, v6, v7, .int (-1), v8])), (h1, .inr (8, [.ref h4, .ref h2, .ref h3, .int 0, .int 0])), (h5, .inr (7, [v19, v20, .int 0, v22, v23])), (h6, .inr (3, [v24, v25, v26, v27, v28, .int (-1), .int (-1)]))] := hD
  subst hw_565
  have hP9 := hP.sub (ws' := [(h0, .inr (10, [v0, v1, v2, .ref h1, v3, v4, .ref h6, .ref h5, v5, v6, v7, .int (-1), v8])), (h1, .inr (8, [.ref h4, .ref h2, .ref h3, .int 0, .int 0])), (h2, .inl (cI, 30, .inl f10)), (h3, .inl (cI, 30, .inl f_563)), (h4, .inr (1, [v12, v13, v14, v15, v16, v17, .int 0, v18])), (h5, .inr (7, [v19, v20, .int 0, v22, v23])), (h6, .inr (3, [v24, v25, v26, v27, v28, .int (-1), .int (-1)]))]) [3, 4, 0, 1, 2, 5, 6] rfl
  have hD9 := hD.sub (ws' := [(h0, .inr (10, [v0, v1, v2, .ref h1, v3, v4, .ref h6, .ref h5, v5, v6, v7, .int (-1), v8])), (h1, .inr (8, [.ref h4, .ref h2, .ref h3, .int 0, .int 0])), (h2, .inl (cI, 30, .inl f10)), (h3, .inl (cI, 30, .inl f_563)), (h4, .inr (1, [v12, v13, v14, v15, v16, v17, .int 0, v18])), (h5, .inr (7, [v19, v20, .int 0, v22, v23])), (h6, .inr (3, [v24, v25, v26, v27, v28, .int (-1), .int (-1)]))]) [3, 4, 0, 1, 2, 5, 6] (by decide) rfl
  exact W.iret (v := 0) hx hb hr (fun t ht hW => ⟨⟨0, f_563, rfl, rfl, by rw [ht]; exact hP9, hD9⟩, hS.F ht⟩) hS.2.2 dX11_whole_11
def o_X12_inView : List Cond := [.fieldLink RX12 113 "EarTableModel" "viewMany" "I"]
def u_X12_inView : List Cond := .code yX12_inView cX12_inView 3 (some .int) :: (o_X12_inView ++ (wsX120 ++ ([] : List Cond)))
theorem inw_X12_inView_X12 : ∀ w ∈ wsX120, w ∈ u_X12_inView := fun w h => List.mem_cons_of_mem _ (List.mem_append_right _ (List.mem_append_left _ h))
set_option maxRecDepth 20000 in
theorem good_X12_inView : u_X12_inView.all goodWord = true := by decide +kernel
set_option maxRecDepth 20000 in
theorem in_X12_inView : ∀ w ∈ u_X12_inView, w ∈ lw_tbl := ma_cons inc_X12_inView (ma_app (ma_pos o_X12_inView [1002] (by decide +kernel)) (ma_app inb_X12 ma_nil))
set_option maxHeartbeats 4000000 in
set_option maxRecDepth 100000 in
theorem c_X12_inView (l : Launch) (D : va_G) (cI cJ cZ cB : ClassId) (sz : Nat) (h0 : Nat) (v0 : Value) (v1 : Value) (v2 : Value) (v3 : Value) (v4 : Value) (v5 : Value) (v6 : Value) (v7 : Value) (v8 : Value) (v9 : Value) (v10 : Value) (v11 : Value) (v12 : Value) (v13 : Value) (v14 : Value) (v15 : Value) (v16 : Value) (v17 : Value) (v18 : Value) (v19 : Value) (v20 : Value) (v21 : Value) (v22 : Value) (v23 : Value) (v24 : Value) (v25 : Value) (v26 : Value) (v27 : Value) (v28 : Value) (v29 : Value) (v30 : Value) (v31 : Value) (v32 : Value) (v33 : Value) (v34 : Value) (v35 : Value) (v36 : Value) (v37 : Value) (v38 : Value) (v39 : Value) (v40 : Value) (v41 : Value) (v42 : Value) (v43 : Value) (v44 : Value) (v45 : Value) (v46 : Value) (v47 : Value) (v48 : Value) : Met l yX12_inView u_X12_inView ({ frames := 0, cells := 0, slots := 0, locals := 0 }) (va_Pc [.ref h0, .int (-1)] (kPre D cI cJ cZ cB [(h0, .inr (11, [v0, v1, v2, v3, v4, v5, v6, v7, v8, v9, v10, v11, v12, v13, v14, v15, v16, v17, v18, v19, v20, v21, v22, v23, v24, v25, .int 0, v26, v27, v28, v29, v30, v31, v32, v33, v34, v35, v36, v37, v38, v39, v40, v41, v42, v43, v44, v45, v46, v47, v48]))] sz)) (va_Qi (fun (r : Int32) (_ : Unit) => r = (-1)) (kB D (fun (u : Unit) => [(h0, .inr (11, [v0, v1, v2, v3, v4, v5, v6, v7, v8, v9, v10, v11, v12, v13, v14, v15, v16, v17, v18, v19, v20, v21, v22, v23, v24, v25, .int 0, v26, v27, v28, v29, v30, v31, v32, v33, v34, v35, v36, v37, v38, v39, v40, v41, v42, v43, v44, v45, v46, v47, v48]))]) (va_A [(h0, .inr (11, [v0, v1, v2, v3, v4, v5, v6, v7, v8, v9, v10, v11, v12, v13, v14, v15, v16, v17, v18, v19, v20, v21, v22, v23, v24, v25, .int 0, v26, v27, v28, v29, v30, v31, v32, v33, v34, v35, v36, v37, v38, v39, v40, v41, v42, v43, v44, v45, v46, v47, v48]))] sz)) (va_A [(h0, .inr (11, [v0, v1, v2, v3, v4, v5, v6, v7, v8, v9, v10, v11, v12, v13, v14, v15, v16, v17, v18, v19, v20, v21, v22, v23, v24, v25, .int 0, v26, v27, v28, v29, v30, v31, v32, v33, v34, v35, v36, v37, v38, v39, v40, v41, v42, v43, v44, v45, v46, v47, v48]))] sz)) 0 0 (va_A [(h0, .inr (11, [v0, v1, v2, v3, v4, v5, v6, v7, v8, v9, v10, v11, v12, v13, v14, v15, v16, v17, v18, v19, v20, v21, v22, v23, v24, v25, .int 0, v26, v27, v28, v29, v30, v31, v32, v33, v34, v35, v36, v37, v38, v39, v40, v41, v42, v43, v44, v45, v46, v47, v48]))] sz) := by
  refine Met.ofW (cc := cX12_inView) (maxL := 3) (ret := (some .int)) (by decide) rfl ?_
  intro p e s m args below meth c s₁ B hml hv
  obtain ⟨rfl, hsz, hP, hK, hN, hD0⟩ := hv
  have hx := B.exec
  have hb := B.bytes
  have hr := B.returns
  have hts := atoms_spec (ws := u_X12_inView) B.pre
  have hown : s.vm.findClass RX12 = some m.cls := findClass_of_methodNamed B.named
  have hlocks := B.notSynchronized
  subst hsz
  have hD := hD0.self (sz := s.heap.size)
  generalize hAe : va_A [(h0, .inr (11, [v0, v1, v2, v3, v4, v5, v6, v7, v8, v9, v10, v11, v12, v13, v14, v15, v16, v17, v18, v19, v20, v21, v22, v23, v24, v25, .int 0, v26, v27, v28, v29, v30, v31, v32, v33, v34, v35, v36, v37, v38, v39, v40, v41, v42, v43, v44, v45, v46, v47, v48]))] s.heap.size = A at hD ⊢
  have hA : ∀ q : Nat, s.heap.size ≤ q → A q := fun q h => by rw [← hAe]; exact Or.inr h
  have hS : va_S A s.heap s.heap [] := va_S.rf
  have hP : va_P D vwCl [(h0, .inr (11, [v0, v1, v2, v3, v4, v5, v6, v7, v8, v9, v10, v11, v12, v13, v14, v15, v16, v17, v18, v19, v20, v21, v22, v23, v24, v25, .int 0, v26, v27, v28, v29, v30, v31, v32, v33, v34, v35, v36, v37, v38, v39, v40, v41, v42, v43, v44, v45, v46, v47, v48]))] s.heap := hP
  have hl := lv_entry ([.ref h0, .int (-1)]) (n := 3) (Nat.le_of_ble_eq_true rfl)
  rw [lg_entry_eq]
  generalize (lg_sl ([.ref h0, .int (-1)]) ++ List.replicate (3 - (lg_sl ([.ref h0, .int (-1)])).length) Slot.unset).toArray = ls at hl ⊢
  have hl : lv_has ls 3 [(0, .ref h0), (1, .int (-1))] := hl
  obtain ⟨H, hHe⟩ : ∃ H, s.heap = H := ⟨_, rfl⟩
  have hP : va_P D vwCl [(h0, .inr (11, [v0, v1, v2, v3, v4, v5, v6, v7, v8, v9, v10, v11, v12, v13, v14, v15, v16, v17, v18, v19, v20, v21, v22, v23, v24, v25, .int 0, v26, v27, v28, v29, v30, v31, v32, v33, v34, v35, v36, v37, v38, v39, v40, v41, v42, v43, v44, v45, v46, v47, v48]))] H := by rw [← hHe]; exact hP
  have hS : va_S A s.heap H [] := by rw [← hHe]; exact hS
  refine kn_heap hHe ?_
  refine lv_iconst (v := 0) hx hb dX12_inView_0 (by decide) ?_
  refine lv_istore_n (lv' := [(2, .int 0), (0, .ref h0), (1, .int (-1))]) hx hb dX12_inView_1 rfl hl (by decide) rfl (fun ls hl => ?_)
  refine lv_iload_n hx hb dX12_inView_2 rfl (lv_at hl 0 rfl) ?_
  refine lv_aload_n hx hb dX12_inView_3 rfl (lv_at hl 1 rfl) ?_
  refine va_get (D := D) (ci := 11) (v := .int 0) (C := RX12) (T := TX12) (N := 50) hx hb hts inw_X12_inView_X12 hown hK hP 0 rfl rfl 26 (by decide) (hts (.fieldLink RX12 113 "EarTableModel" "viewMany" "I") (by decide +kernel)) (fun _ h9 => h9) rfl dX12_inView_4 ?_
  refine lv_icmp_ge (tgt := 28) hx hb dX12_inView_7 (by decide) (fun c_570 => ?_) (fun c_570 => ?_)
  · skip
    refine lv_iconst (v := (-1)) hx hb dX12_inView_28 (by decide) ?_
    have hP9 := hP.sub (ws' := [(h0, .inr (11, [v0, v1, v2, v3, v4, v5, v6, v7, v8, v9, v10, v11, v12, v13, v14, v15, v16, v17, v18, v19, v20, v21, v22, v23, v24, v25, .int 0, v26, v27, v28, v29, v30, v31, v32, v33, v34, v35, v36, v37, v38, v39, v40, v41, v42, v43, v44, v45, v46, v47, v48]))]) [0] rfl
    have hD9 := hD.sub (ws' := [(h0, .inr (11, [v0, v1, v2, v3, v4, v5, v6, v7, v8, v9, v10, v11, v12, v13, v14, v15, v16, v17, v18, v19, v20, v21, v22, v23, v24, v25, .int 0, v26, v27, v28, v29, v30, v31, v32, v33, v34, v35, v36, v37, v38, v39, v40, v41, v42, v43, v44, v45, v46, v47, v48]))]) [0] (by decide) rfl
    exact W.iret (v := (-1)) hx hb hr (fun t ht hW => ⟨⟨(-1), (), rfl, rfl, by rw [ht]; exact hP9, hD9⟩, hS.F ht⟩) hS.2.2 dX12_inView_29
  · skip
    exact absurd rfl c_570
def o_X12_show : List Cond := [.fieldLink RX12 113 "EarTableModel" "viewMany" "I", .fieldLink RX12 116 "EarTableModel" "placeLine" "I", .methodLink RX12 179 yX12_inView, .instanceMethod yX12_inView, .selects RX12 yX12_inView yX12_inView, .initialized RX12, .fieldLink RX12 98 "EarTableModel" "backs" "I", .fieldLink RX12 104 "EarTableModel" "toldLine" "I"]
def u_X12_show : List Cond := .code yX12_show cX12_show 6 (some .int) :: (o_X12_show ++ (u_X12_inView ++ (wsX120 ++ ([] : List Cond))))
theorem gs_X12_show__X12_inView : GoodIn u_X12_show u_X12_inView := goodIn_sub (fun w h => List.mem_cons_of_mem _ (List.mem_append_right _ (List.mem_append_left _ h))) good_X12_inView
theorem inw_X12_show_X12 : ∀ w ∈ wsX120, w ∈ u_X12_show := fun w h => List.mem_cons_of_mem _ (List.mem_append_right _ (List.mem_append_right _ (List.mem_append_left _ h)))
set_option maxRecDepth 20000 in
theorem good_X12_show : u_X12_show.all goodWord = true := by decide +kernel
set_option maxRecDepth 20000 in
theorem in_X12_show : ∀ w ∈ u_X12_show, w ∈ lw_tbl := ma_cons inc_X12_show (ma_app (ma_pos o_X12_show [1002, 1003, 947, 949, 44, 76, 1015, 1013] (by decide +kernel)) (ma_app in_X12_inView (ma_app inb_X12 ma_nil)))
set_option maxHeartbeats 4000000 in
set_option maxRecDepth 100000 in
theorem c_X12_show (l : Launch) (D : va_G) (cI cJ cZ cB : ClassId) (sz : Nat) (h0 : Nat) (v0 : Value) (v1 : Value) (v2 : Value) (v3 : Value) (v4 : Value) (v5 : Value) (v6 : Value) (v7 : Value) (v8 : Value) (v9 : Value) (v10 : Value) (v11 : Value) (v12 : Value) (v13 : Value) (v14 : Value) (v15 : Value) (v16 : Value) (v17 : Value) (v18 : Value) (v19 : Value) (v20 : Value) (v21 : Value) (v22 : Value) (v23 : Value) (v24 : Value) (v25 : Value) (v26 : Value) (v27 : Value) (v28 : Value) (v29 : Value) (v30 : Value) (v31 : Value) (v32 : Value) (v33 : Value) (v34 : Value) (v35 : Value) (v36 : Value) (v37 : Value) (v38 : Value) (v39 : Value) (v40 : Value) (v41 : Value) (v42 : Value) (v43 : Value) (v44 : Value) (v45 : Value) (v46 : Value) (v47 : Value) : Met l yX12_show u_X12_show ({ frames := 1, cells := 0, slots := 0, locals := 22 }) (va_Pc [.ref h0, .int 0] (kPre D cI cJ cZ cB [(h0, .inr (11, [v0, v1, v2, v3, v4, v5, v6, v7, v8, v9, v10, v11, v12, v13, v14, v15, v16, v17, v18, v19, v20, v21, v22, v23, v24, v25, .int 0, .int (-1), v26, v27, v28, v29, v30, v31, v32, v33, v34, v35, v36, v37, v38, v39, v40, v41, v42, v43, v44, v45, v46, v47]))] sz)) (va_Qi (fun (r : Int32) (_ : Unit) => r = 0) (kB D (fun (u : Unit) => [(h0, .inr (11, [v0, v1, v2, v3, v4, v5, v6, v7, v8, v9, v10, v11, v12, v13, v14, v15, v16, v17, v18, v19, v20, v21, v22, v23, v24, v25, .int 0, .int (-1), v26, v27, v28, v29, v30, v31, v32, v33, v34, .int (-1), v36, .int 0, v38, v39, v40, v41, v42, v43, v44, v45, v46, v47]))]) (va_A [(h0, .inr (11, [v0, v1, v2, v3, v4, v5, v6, v7, v8, v9, v10, v11, v12, v13, v14, v15, v16, v17, v18, v19, v20, v21, v22, v23, v24, v25, .int 0, .int (-1), v26, v27, v28, v29, v30, v31, v32, v33, v34, v35, v36, v37, v38, v39, v40, v41, v42, v43, v44, v45, v46, v47]))] sz)) (va_A [(h0, .inr (11, [v0, v1, v2, v3, v4, v5, v6, v7, v8, v9, v10, v11, v12, v13, v14, v15, v16, v17, v18, v19, v20, v21, v22, v23, v24, v25, .int 0, .int (-1), v26, v27, v28, v29, v30, v31, v32, v33, v34, v35, v36, v37, v38, v39, v40, v41, v42, v43, v44, v45, v46, v47]))] sz)) 0 0 (va_A [(h0, .inr (11, [v0, v1, v2, v3, v4, v5, v6, v7, v8, v9, v10, v11, v12, v13, v14, v15, v16, v17, v18, v19, v20, v21, v22, v23, v24, v25, .int 0, .int (-1), v26, v27, v28, v29, v30, v31, v32, v33, v34, v35, v36, v37, v38, v39, v40, v41, v42, v43, v44, v45, v46, v47]))] sz) := by
  refine Met.ofW (cc := cX12_show) (maxL := 6) (ret := (some .int)) (by decide) rfl ?_
  intro p e s m args below meth c s₁ B hml hv
  obtain ⟨rfl, hsz, hP, hK, hN, hD0⟩ := hv
  have hx := B.exec
  have hb := B.bytes
  have hr := B.returns
  have hts := atoms_spec (ws := u_X12_show) B.pre
  have hown : s.vm.findClass RX12 = some m.cls := findClass_of_methodNamed B.named
  have hlocks := B.notSynchronized
  subst hsz
  have hD := hD0.self (sz := s.heap.size)
  generalize hAe : va_A [(h0, .inr (11, [v0, v1, v2, v3, v4, v5, v6, v7, v8, v9, v10, v11, v12, v13, v14, v15, v16, v17, v18, v19, v20, v21, v22, v23, v24, v25, .int 0, .int (-1), v26, v27, v28, v29, v30, v31, v32, v33, v34, v35, v36, v37, v38, v39, v40, v41, v42, v43, v44, v45, v46, v47]))] s.heap.size = A at hD ⊢
  have hA : ∀ q : Nat, s.heap.size ≤ q → A q := fun q h => by rw [← hAe]; exact Or.inr h
  have hS : va_S A s.heap s.heap [] := va_S.rf
  have hP : va_P D vwCl [(h0, .inr (11, [v0, v1, v2, v3, v4, v5, v6, v7, v8, v9, v10, v11, v12, v13, v14, v15, v16, v17, v18, v19, v20, v21, v22, v23, v24, v25, .int 0, .int (-1), v26, v27, v28, v29, v30, v31, v32, v33, v34, v35, v36, v37, v38, v39, v40, v41, v42, v43, v44, v45, v46, v47]))] s.heap := hP
  have hl := lv_entry ([.ref h0, .int 0]) (n := 6) (Nat.le_of_ble_eq_true rfl)
  rw [lg_entry_eq]
  generalize (lg_sl ([.ref h0, .int 0]) ++ List.replicate (6 - (lg_sl ([.ref h0, .int 0])).length) Slot.unset).toArray = ls at hl ⊢
  have hl : lv_has ls 6 [(0, .ref h0), (1, .int 0)] := hl
  obtain ⟨H, hHe⟩ : ∃ H, s.heap = H := ⟨_, rfl⟩
  have hP : va_P D vwCl [(h0, .inr (11, [v0, v1, v2, v3, v4, v5, v6, v7, v8, v9, v10, v11, v12, v13, v14, v15, v16, v17, v18, v19, v20, v21, v22, v23, v24, v25, .int 0, .int (-1), v26, v27, v28, v29, v30, v31, v32, v33, v34, v35, v36, v37, v38, v39, v40, v41, v42, v43, v44, v45, v46, v47]))] H := by rw [← hHe]; exact hP
  have hS : va_S A s.heap H [] := by rw [← hHe]; exact hS
  refine kn_heap hHe ?_
  refine lv_aload_n hx hb dX12_show_0 rfl (lv_at hl 0 rfl) ?_
  refine va_get (D := D) (ci := 11) (v := .int 0) (C := RX12) (T := TX12) (N := 50) hx hb hts inw_X12_show_X12 hown hK hP 0 rfl rfl 26 (by decide) (hts (.fieldLink RX12 113 "EarTableModel" "viewMany" "I") (by decide +kernel)) (fun _ h9 => h9) rfl dX12_show_1 ?_
  refine lv_istore_n (lv' := [(2, .int 0), (0, .ref h0), (1, .int 0)]) hx hb dX12_show_4 rfl hl (by decide) rfl (fun ls hl => ?_)
  refine lv_aload_n hx hb dX12_show_5 rfl (lv_at hl 1 rfl) ?_
  refine lv_aload_n hx hb dX12_show_6 rfl (lv_at hl 1 rfl) ?_
  refine va_get (D := D) (ci := 11) (v := .int (-1)) (C := RX12) (T := TX12) (N := 50) hx hb hts inw_X12_show_X12 hown hK hP 0 rfl rfl 27 (by decide) (hts (.fieldLink RX12 116 "EarTableModel" "placeLine" "I") (by decide +kernel)) (fun _ h9 => h9) rfl dX12_show_7 ?_
  have hPc := hP.sub (ws' := [(h0, .inr (11, [v0, v1, v2, v3, v4, v5, v6, v7, v8, v9, v10, v11, v12, v13, v14, v15, v16, v17, v18, v19, v20, v21, v22, v23, v24, v25, .int 0, .int (-1), v26, v27, v28, v29, v30, v31, v32, v33, v34, v35, v36, v37, v38, v39, v40, v41, v42, v43, v44, v45, v46, v47]))]) [0] rfl
  have hDc := hD.sub (ws' := [(h0, .inr (11, [v0, v1, v2, v3, v4, v5, v6, v7, v8, v9, v10, v11, v12, v13, v14, v15, v16, v17, v18, v19, v20, v21, v22, v23, v24, v25, .int 0, .int (-1), v26, v27, v28, v29, v30, v31, v32, v33, v34, v35, v36, v37, v38, v39, v40, v41, v42, v43, v44, v45, v46, v47]))]) [0] (by decide) rfl
  refine kn_calli (wr := []) (cells' := 0) (slots' := 0) (va_runV (As := [.int (-1)]) (rest := []) ⟨hx, hb, hml, hown, hts⟩ (c_X12_inView l D cI cJ cZ cB H.size h0 v0 v1 v2 v3 v4 v5 v6 v7 v8 v9 v10 v11 v12 v13 v14 v15 v16 v17 v18 v19 v20 v21 v22 v23 v24 v25 (.int (-1)) v26 v27 v28 v29 v30 v31 v32 v33 v34 v35 v36 v37 v38 v39 v40 v41 v42 v43 v44 v45 v46 v47) (cwV 1 hts (goodIn_app (goodIn_of _ (by decide +kernel)) gs_X12_show__X12_inView) rfl rfl rfl (by decide +kernel) ⟨(Nat.le_of_ble_eq_true rfl), (Nat.le_of_ble_eq_true rfl)⟩) (kp_V 0 11 rfl rfl hPc hK hN hDc) rfl rfl hl.1 rfl (lv_room (Nat.le_of_ble_eq_true rfl)) dX12_show_10 ⟨(Nat.le_of_ble_eq_true rfl), (Nat.le_of_ble_eq_true rfl)⟩) hS hA hP hD [0] [] rfl rfl (by decide) (by decide) (Nat.le_of_ble_eq_true rfl) (Nat.le_of_ble_eq_true rfl) (fun r_570 u H locs hw_571 hP hD hS => ?_)
  have hP : va_P D vwCl [(h0, .inr (11, [v0, v1, v2, v3, v4, v5, v6, v7, v8, v9, v10, v11, v12, v13, v14, v15, v16, v17, v18, v19, v20, v21, v22, v23, v24, v25, .int 0, .int (-1), v26, v27, v28, v29, v30, v31, v32, v33, v34, v35, v36, v37, v38, v39, v40, v41, v42, v43, v44, v45, v46, v47]))] H := hP
  have hD : va_D A [(h0, .inr (11, [v0, v1, v2, v3, v4, v5, v6, v7, v8, v9, v10, v11, v12, v13, v14, v15, v16, v17, v18, v19, v20, v21, v22, v23, v24, v25, .int 0, .int (-1), v26, v27, v28, v29, v30, v31, v32, v33, v34, v35, v36, v37, v38, v39, v40, v41, v42, v43, v44, v45, v46, v47]))] := hD
  subst hw_571
  refine lv_istore_n (lv' := [(3, .int (-1)), (2, .int 0), (0, .ref h0), (1, .int 0)]) hx hb dX12_show_13 rfl hl (by decide) rfl (fun ls hl => ?_)
  refine lv_iconst (v := 0) hx hb dX12_show_14 (by decide) ?_
  refine lv_istore (lv' := [(4, .int 0), (3, .int (-1)), (2, .int 0), (0, .ref h0), (1, .int 0)]) hx hb dX12_show_15 hl (by decide) rfl (fun ls hl => ?_)
  refine lv_iload hx hb dX12_show_17 (lv_at hl 0 rfl) ?_
  refine lv_iload_n hx hb dX12_show_19 rfl (lv_at hl 2 rfl) ?_
  refine lv_icmp_ge (tgt := 43) hx hb dX12_show_20 (by decide) (fun c_572 => ?_) (fun c_572 => ?_)
  · skip
    refine lv_iconst (v := 0) hx hb dX12_show_43 (by decide) ?_
    refine lv_istore (lv' := [(4, .int 0), (3, .int (-1)), (2, .int 0), (0, .ref h0), (1, .int 0)]) hx hb dX12_show_44 hl (by decide) rfl (fun ls hl => ?_)
    refine lv_iload hx hb dX12_show_46 (lv_at hl 0 rfl) ?_
    refine lv_iload_n hx hb dX12_show_48 rfl (lv_at hl 4 rfl) ?_
    refine lv_icmp_ge (tgt := 72) hx hb dX12_show_49 (by decide) (fun c_573 => ?_) (fun c_573 => ?_)
    · skip
      refine lv_aload_n hx hb dX12_show_72 rfl (lv_at hl 3 rfl) ?_
      refine lv_iload_n hx hb dX12_show_73 rfl (lv_at hl 4 rfl) ?_
      refine va_put (D := D) (ci := 11) (v := .int 0) (ty := .int) (C := RX12) (T := TX12) (N := 50) hx hb hts inw_X12_show_X12 tyX12 tyX12_ok nmX12 hown hK hP hD hS 0 rfl rfl 26 (by decide) (hts (.fieldLink RX12 113 "EarTableModel" "viewMany" "I") (by decide +kernel)) (fun _ h9 => h9) rfl (by decide +kernel) rfl rfl (Nat.le_of_ble_eq_true rfl) dX12_show_74 (fun H locs hP hD hS => ?_)
      have hP : va_P D vwCl [(h0, .inr (11, [v0, v1, v2, v3, v4, v5, v6, v7, v8, v9, v10, v11, v12, v13, v14, v15, v16, v17, v18, v19, v20, v21, v22, v23, v24, v25, .int 0, .int (-1), v26, v27, v28, v29, v30, v31, v32, v33, v34, v35, v36, v37, v38, v39, v40, v41, v42, v43, v44, v45, v46, v47]))] H := hP
      have hD : va_D A [(h0, .inr (11, [v0, v1, v2, v3, v4, v5, v6, v7, v8, v9, v10, v11, v12, v13, v14, v15, v16, v17, v18, v19, v20, v21, v22, v23, v24, v25, .int 0, .int (-1), v26, v27, v28, v29, v30, v31, v32, v33, v34, v35, v36, v37, v38, v39, v40, v41, v42, v43, v44, v45, v46, v47]))] := hD
      refine lv_aload_n hx hb dX12_show_77 rfl (lv_at hl 3 rfl) ?_
      refine lv_iconst (v := 0) hx hb dX12_show_78 (by decide) ?_
      refine va_put (D := D) (ci := 11) (v := .int 0) (ty := .int) (C := RX12) (T := TX12) (N := 50) hx hb hts inw_X12_show_X12 tyX12 tyX12_ok nmX12 hown hK hP hD hS 0 rfl rfl 39 (by decide) (hts (.fieldLink RX12 98 "EarTableModel" "backs" "I") (by decide +kernel)) (fun _ h9 => h9) rfl (by decide +kernel) rfl rfl (Nat.le_of_ble_eq_true rfl) dX12_show_79 (fun H locs hP hD hS => ?_)
      have hP : va_P D vwCl [(h0, .inr (11, [v0, v1, v2, v3, v4, v5, v6, v7, v8, v9, v10, v11, v12, v13, v14, v15, v16, v17, v18, v19, v20, v21, v22, v23, v24, v25, .int 0, .int (-1), v26, v27, v28, v29, v30, v31, v32, v33, v34, v35, v36, .int 0, v38, v39, v40, v41, v42, v43, v44, v45, v46, v47]))] H := hP
      have hD : va_D A [(h0, .inr (11, [v0, v1, v2, v3, v4, v5, v6, v7, v8, v9, v10, v11, v12, v13, v14, v15, v16, v17, v18, v19, v20, v21, v22, v23, v24, v25, .int 0, .int (-1), v26, v27, v28, v29, v30, v31, v32, v33, v34, v35, v36, .int 0, v38, v39, v40, v41, v42, v43, v44, v45, v46, v47]))] := hD
      refine lv_aload_n hx hb dX12_show_82 rfl (lv_at hl 3 rfl) ?_
      refine lv_iconst (v := (-1)) hx hb dX12_show_83 (by decide) ?_
      refine va_put (D := D) (ci := 11) (v := .int (-1)) (ty := .int) (C := RX12) (T := TX12) (N := 50) hx hb hts inw_X12_show_X12 tyX12 tyX12_ok nmX12 hown hK hP hD hS 0 rfl rfl 37 (by decide) (hts (.fieldLink RX12 104 "EarTableModel" "toldLine" "I") (by decide +kernel)) (fun _ h9 => h9) rfl (by decide +kernel) rfl rfl (Nat.le_of_ble_eq_true rfl) dX12_show_84 (fun H locs hP hD hS => ?_)
      have hP : va_P D vwCl [(h0, .inr (11, [v0, v1, v2, v3, v4, v5, v6, v7, v8, v9, v10, v11, v12, v13, v14, v15, v16, v17, v18, v19, v20, v21, v22, v23, v24, v25, .int 0, .int (-1), v26, v27, v28, v29, v30, v31, v32, v33, v34, .int (-1), v36, .int 0, v38, v39, v40, v41, v42, v43, v44, v45, v46, v47]))] H := hP
      have hD : va_D A [(h0, .inr (11, [v0, v1, v2, v3, v4, v5, v6, v7, v8, v9, v10, v11, v12, v13, v14, v15, v16, v17, v18, v19, v20, v21, v22, v23, v24, v25, .int 0, .int (-1), v26, v27, v28, v29, v30, v31, v32, v33, v34, .int (-1), v36, .int 0, v38, v39, v40, v41, v42, v43, v44, v45, v46, v47]))] := hD
      refine lv_iload_n hx hb dX12_show_87 rfl (lv_at hl 1 rfl) ?_
      refine lv_if_ge (tgt := 108) hx hb dX12_show_88 (by decide) (fun c_574 => ?_) (fun c_574 => ?_)
      · skip
        exact absurd c_574 (by decide)
      · skip
        refine lv_iload_n hx hb dX12_show_91 rfl (lv_at hl 4 rfl) ?_
        refine lv_if_le (tgt := 104) hx hb dX12_show_92 (by decide) (fun c_575 => ?_) (fun c_575 => ?_)
        · skip
          refine lv_iconst (v := (-1)) hx hb dX12_show_104 (by decide) ?_
          refine lv_goto (tgt := 109) hx hb dX12_show_105 (by decide) ?_
          refine lv_istore (lv' := [(4, .int (-1)), (3, .int (-1)), (2, .int 0), (0, .ref h0), (1, .int 0)]) hx hb dX12_show_109 hl (by decide) rfl (fun ls hl => ?_)
          refine lv_iload_n hx hb dX12_show_111 rfl (lv_at hl 1 rfl) ?_
          refine lv_istore (lv' := [(5, .int (-1)), (4, .int (-1)), (3, .int (-1)), (2, .int 0), (0, .ref h0), (1, .int 0)]) hx hb dX12_show_112 hl (by decide) rfl (fun ls hl => ?_)
          refine lv_iload hx hb dX12_show_114 (lv_at hl 0 rfl) ?_
          refine lv_if_lt (tgt := 159) hx hb dX12_show_116 (by decide) (fun c_576 => ?_) (fun c_576 => ?_)
          · skip
            refine lv_iload_n hx hb dX12_show_159 rfl (lv_at hl 2 rfl) ?_
            refine lv_iconst (v := 1) hx hb dX12_show_160 (by decide) ?_
            refine lv_isub hx hb dX12_show_161 ?_
            refine kn_top (y := (-2)) (by decide) ?_
            refine lv_istore (lv' := [(5, .int (-2)), (4, .int (-1)), (3, .int (-1)), (2, .int 0), (0, .ref h0), (1, .int 0)]) hx hb dX12_show_162 hl (by decide) rfl (fun ls hl => ?_)
            refine lv_iload hx hb dX12_show_164 (lv_at hl 0 rfl) ?_
            refine lv_if_lt (tgt := 203) hx hb dX12_show_166 (by decide) (fun c_577 => ?_) (fun c_577 => ?_)
            · skip
              refine lv_aload_n hx hb dX12_show_203 rfl (lv_at hl 4 rfl) ?_
              refine lv_iload hx hb dX12_show_204 (lv_at hl 1 rfl) ?_
              refine va_put (D := D) (ci := 11) (v := .int (-1)) (ty := .int) (C := RX12) (T := TX12) (N := 50) hx hb hts inw_X12_show_X12 tyX12 tyX12_ok nmX12 hown hK hP hD hS 0 rfl rfl 27 (by decide) (hts (.fieldLink RX12 116 "EarTableModel" "placeLine" "I") (by decide +kernel)) (fun _ h9 => h9) rfl (by decide +kernel) rfl rfl (Nat.le_of_ble_eq_true rfl) dX12_show_206 (fun H locs hP hD hS => ?_)
              have hP : va_P D vwCl [(h0, .inr (11, [v0, v1, v2, v3, v4, v5, v6, v7, v8, v9, v10, v11, v12, v13, v14, v15, v16, v17, v18, v19, v20, v21, v22, v23, v24, v25, .int 0, .int (-1), v26, v27, v28, v29, v30, v31, v32, v33, v34, .int (-1), v36, .int 0, v38, v39, v40, v41, v42, v43, v44, v45, v46, v47]))] H := hP
              have hD : va_D A [(h0, .inr (11, [v0, v1, v2, v3, v4, v5, v6, v7, v8, v9, v10, v11, v12, v13, v14, v15, v16, v17, v18, v19, v20, v21, v22, v23, v24, v25, .int 0, .int (-1), v26, v27, v28, v29, v30, v31, v32, v33, v34, .int (-1), v36, .int 0, v38, v39, v40, v41, v42, v43, v44, v45, v46, v47]))] := hD
              refine lv_iload_n hx hb dX12_show_209 rfl (lv_at hl 5 rfl) ?_
              have hP9 := hP.sub (ws' := [(h0, .inr (11, [v0, v1, v2, v3, v4, v5, v6, v7, v8, v9, v10, v11, v12, v13, v14, v15, v16, v17, v18, v19, v20, v21, v22, v23, v24, v25, .int 0, .int (-1), v26, v27, v28, v29, v30, v31, v32, v33, v34, .int (-1), v36, .int 0, v38, v39, v40, v41, v42, v43, v44, v45, v46, v47]))]) [0] rfl
              have hD9 := hD.sub (ws' := [(h0, .inr (11, [v0, v1, v2, v3, v4, v5, v6, v7, v8, v9, v10, v11, v12, v13, v14, v15, v16, v17, v18, v19, v20, v21, v22, v23, v24, v25, .int 0, .int (-1), v26, v27, v28, v29, v30, v31, v32, v33, v34, .int (-1), v36, .int 0, v38, v39, v40, v41, v42, v43, v44, v45, v46, v47]))]) [0] (by decide) rfl
              exact W.iret (v := 0) hx hb hr (fun t ht hW => ⟨⟨0, (), rfl, rfl, by rw [ht]; exact hP9, hD9⟩, hS.F ht⟩) hS.2.2 dX12_show_210
            · skip
              exact absurd (by decide) c_577
          · skip
            exact absurd (by decide) c_576
        · skip
          exact absurd rfl c_575
    · skip
      exact absurd rfl c_573
  · skip
    exact absurd rfl c_572
def o_X12_whole : List Cond := [.fieldLink RX12 74 "EarTableModel" "lines" "[I", .fieldLink RX12 64 "EarTableModel" "bank" "I", .methodLink RX12 188 yX12_show, .instanceMethod yX12_show, .selects RX12 yX12_show yX12_show, .initialized RX12]
def u_X12_whole : List Cond := .code yX12_whole cX12_whole 2 (some .int) :: (o_X12_whole ++ (u_X12_show ++ (wsX120 ++ ([] : List Cond))))
theorem gs_X12_whole__X12_show : GoodIn u_X12_whole u_X12_show := goodIn_sub (fun w h => List.mem_cons_of_mem _ (List.mem_append_right _ (List.mem_append_left _ h))) good_X12_show
theorem inw_X12_whole_X12 : ∀ w ∈ wsX120, w ∈ u_X12_whole := fun w h => List.mem_cons_of_mem _ (List.mem_append_right _ (List.mem_append_right _ (List.mem_append_left _ h)))
set_option maxRecDepth 20000 in
theorem good_X12_whole : u_X12_whole.all goodWord = true := by decide +kernel
set_option maxRecDepth 20000 in
theorem in_X12_whole : ∀ w ∈ u_X12_whole, w ∈ lw_tbl := ma_cons inc_X12_whole (ma_app (ma_pos o_X12_whole [992, 996, 943, 945, 43, 76] (by decide +kernel)) (ma_app in_X12_show (ma_app inb_X12 ma_nil)))
set_option maxHeartbeats 4000000 in
set_option maxRecDepth 100000 in
theorem c_X12_whole (l : Launch) (D : va_G) (cI cJ cZ cB : ClassId) (sz : Nat) (h0 : Nat) (h1 : Nat) (v0 : Value) (v1 : Value) (v2 : Value) (v3 : Value) (v4 : Value) (v5 : Value) (v6 : Value) (v7 : Value) (v8 : Value) (v9 : Value) (v10 : Value) (v11 : Value) (v12 : Value) (v13 : Value) (v14 : Value) (v15 : Value) (v16 : Value) (v17 : Value) (v18 : Value) (v19 : Value) (v20 : Value) (v21 : Value) (v22 : Value) (v23 : Value) (v24 : Value) (v25 : Value) (v26 : Value) (v27 : Value) (v28 : Value) (v29 : Value) (v30 : Value) (v31 : Value) (v32 : Value) (v33 : Value) (v34 : Value) (v35 : Value) (v36 : Value) (v37 : Value) (v38 : Value) (v39 : Value) (v40 : Value) (v41 : Value) (v42 : Value) (v43 : Value) (v44 : Value) (v45 : Value) : Met l yX12_whole u_X12_whole ({ frames := 2, cells := 0, slots := 0, locals := 47 }) (va_Pc [.ref h0] (kPre D cI cJ cZ cB [(h0, .inr (11, [v0, v1, v2, v3, v4, v5, v6, v7, v8, v9, v10, v11, v12, v13, v14, v15, .ref h1, v16, v17, v18, .int 0, v19, v20, v21, v22, v23, .int 0, .int (-1), v24, v25, v26, v27, v28, v29, v30, v31, v32, v33, v34, v35, v36, v37, v38, v39, v40, v41, v42, v43, v44, v45])), (h1, .inl (cI, 2, .inl (fun _ => 0)))] sz)) (va_Qi (fun (r : Int32) (_ : Unit) => r = 0) (kB D (fun (u : Unit) => [(h0, .inr (11, [v0, v1, v2, v3, v4, v5, v6, v7, v8, v9, v10, v11, v12, v13, v14, v15, .ref h1, v16, v17, v18, .int 0, v19, v20, v21, v22, v23, .int 0, .int (-1), v24, v25, v26, v27, v28, v29, v30, v31, v32, .int (-1), v34, .int 0, v36, v37, v38, v39, v40, v41, v42, v43, v44, v45])), (h1, .inl (cI, 2, .inl (fun _ => 0)))]) (va_A [(h0, .inr (11, [v0, v1, v2, v3, v4, v5, v6, v7, v8, v9, v10, v11, v12, v13, v14, v15, .ref h1, v16, v17, v18, .int 0, v19, v20, v21, v22, v23, .int 0, .int (-1), v24, v25, v26, v27, v28, v29, v30, v31, v32, v33, v34, v35, v36, v37, v38, v39, v40, v41, v42, v43, v44, v45])), (h1, .inl (cI, 2, .inl (fun _ => 0)))] sz)) (va_A [(h0, .inr (11, [v0, v1, v2, v3, v4, v5, v6, v7, v8, v9, v10, v11, v12, v13, v14, v15, .ref h1, v16, v17, v18, .int 0, v19, v20, v21, v22, v23, .int 0, .int (-1), v24, v25, v26, v27, v28, v29, v30, v31, v32, v33, v34, v35, v36, v37, v38, v39, v40, v41, v42, v43, v44, v45])), (h1, .inl (cI, 2, .inl (fun _ => 0)))] sz)) 0 0 (va_A [(h0, .inr (11, [v0, v1, v2, v3, v4, v5, v6, v7, v8, v9, v10, v11, v12, v13, v14, v15, .ref h1, v16, v17, v18, .int 0, v19, v20, v21, v22, v23, .int 0, .int (-1), v24, v25, v26, v27, v28, v29, v30, v31, v32, v33, v34, v35, v36, v37, v38, v39, v40, v41, v42, v43, v44, v45])), (h1, .inl (cI, 2, .inl (fun _ => 0)))] sz) := by
  refine Met.ofW (cc := cX12_whole) (maxL := 2) (ret := (some .int)) (by decide) rfl ?_
  intro p e s m args below meth c s₁ B hml hv
  obtain ⟨rfl, hsz, hP, hK, hN, hD0⟩ := hv
  have hx := B.exec
  have hb := B.bytes
  have hr := B.returns
  have hts := atoms_spec (ws := u_X12_whole) B.pre
  have hown : s.vm.findClass RX12 = some m.cls := findClass_of_methodNamed B.named
  have hlocks := B.notSynchronized
  subst hsz
  have hD := hD0.self (sz := s.heap.size)
  generalize hAe : va_A [(h0, .inr (11, [v0, v1, v2, v3, v4, v5, v6, v7, v8, v9, v10, v11, v12, v13, v14, v15, .ref h1, v16, v17, v18, .int 0, v19, v20, v21, v22, v23, .int 0, .int (-1), v24, v25, v26, v27, v28, v29, v30, v31, v32, v33, v34, v35, v36, v37, v38, v39, v40, v41, v42, v43, v44, v45])), (h1, .inl (cI, 2, .inl (fun _ => 0)))] s.heap.size = A at hD ⊢
  have hA : ∀ q : Nat, s.heap.size ≤ q → A q := fun q h => by rw [← hAe]; exact Or.inr h
  have hS : va_S A s.heap s.heap [] := va_S.rf
  have hP : va_P D vwCl [(h0, .inr (11, [v0, v1, v2, v3, v4, v5, v6, v7, v8, v9, v10, v11, v12, v13, v14, v15, .ref h1, v16, v17, v18, .int 0, v19, v20, v21, v22, v23, .int 0, .int (-1), v24, v25, v26, v27, v28, v29, v30, v31, v32, v33, v34, v35, v36, v37, v38, v39, v40, v41, v42, v43, v44, v45])), (h1, .inl (cI, 2, .inl (fun _ => 0)))] s.heap := hP
  have hl := lv_entry ([.ref h0]) (n := 2) (Nat.le_of_ble_eq_true rfl)
  rw [lg_entry_eq]
  generalize (lg_sl ([.ref h0]) ++ List.replicate (2 - (lg_sl ([.ref h0])).length) Slot.unset).toArray = ls at hl ⊢
  have hl : lv_has ls 2 [(0, .ref h0)] := hl
  obtain ⟨H, hHe⟩ : ∃ H, s.heap = H := ⟨_, rfl⟩
  have hP : va_P D vwCl [(h0, .inr (11, [v0, v1, v2, v3, v4, v5, v6, v7, v8, v9, v10, v11, v12, v13, v14, v15, .ref h1, v16, v17, v18, .int 0, v19, v20, v21, v22, v23, .int 0, .int (-1), v24, v25, v26, v27, v28, v29, v30, v31, v32, v33, v34, v35, v36, v37, v38, v39, v40, v41, v42, v43, v44, v45])), (h1, .inl (cI, 2, .inl (fun _ => 0)))] H := by rw [← hHe]; exact hP
  have hS : va_S A s.heap H [] := by rw [← hHe]; exact hS
  refine kn_heap hHe ?_
  refine lv_iconst (v := 0) hx hb dX12_whole_0 (by decide) ?_
  refine lv_istore_n (lv' := [(1, .int 0), (0, .ref h0)]) hx hb dX12_whole_1 rfl hl (by decide) rfl (fun ls hl => ?_)
  refine lv_iload_n hx hb dX12_whole_2 rfl (lv_at hl 0 rfl) ?_
  refine lv_aload_n hx hb dX12_whole_3 rfl (lv_at hl 1 rfl) ?_
  refine va_get (D := D) (ci := 11) (v := .ref h1) (C := RX12) (T := TX12) (N := 50) hx hb hts inw_X12_whole_X12 hown hK hP 0 rfl rfl 16 (by decide) (hts (.fieldLink RX12 74 "EarTableModel" "lines" "[I") (by decide +kernel)) (fun _ h9 => h9) rfl dX12_whole_4 ?_
  refine lv_aload_n hx hb dX12_whole_7 rfl (lv_at hl 1 rfl) ?_
  refine va_get (D := D) (ci := 11) (v := .int 0) (C := RX12) (T := TX12) (N := 50) hx hb hts inw_X12_whole_X12 hown hK hP 0 rfl rfl 20 (by decide) (hts (.fieldLink RX12 64 "EarTableModel" "bank" "I") (by decide +kernel)) (fun _ h9 => h9) rfl dX12_whole_8 ?_
  refine va_iald hx hb hK hP 1 0 rfl rfl (kn_in (by decide)) dX12_whole_11 ?_
  refine kn_top (y := 0) (by decide +kernel) ?_
  refine lv_icmp_ge (tgt := 28) hx hb dX12_whole_12 (by decide) (fun c_569 => ?_) (fun c_569 => ?_)
  · skip
    refine lv_aload_n hx hb dX12_whole_28 rfl (lv_at hl 1 rfl) ?_
    refine lv_aload_n hx hb dX12_whole_29 rfl (lv_at hl 1 rfl) ?_
    refine va_get (D := D) (ci := 11) (v := .ref h1) (C := RX12) (T := TX12) (N := 50) hx hb hts inw_X12_whole_X12 hown hK hP 0 rfl rfl 16 (by decide) (hts (.fieldLink RX12 74 "EarTableModel" "lines" "[I") (by decide +kernel)) (fun _ h9 => h9) rfl dX12_whole_30 ?_
    refine lv_aload_n hx hb dX12_whole_33 rfl (lv_at hl 1 rfl) ?_
    refine va_get (D := D) (ci := 11) (v := .int 0) (C := RX12) (T := TX12) (N := 50) hx hb hts inw_X12_whole_X12 hown hK hP 0 rfl rfl 20 (by decide) (hts (.fieldLink RX12 64 "EarTableModel" "bank" "I") (by decide +kernel)) (fun _ h9 => h9) rfl dX12_whole_34 ?_
    refine va_iald hx hb hK hP 1 0 rfl rfl (kn_in (by decide)) dX12_whole_37 ?_
    refine kn_top (y := 0) (by decide +kernel) ?_
    have hPc := hP.sub (ws' := [(h0, .inr (11, [v0, v1, v2, v3, v4, v5, v6, v7, v8, v9, v10, v11, v12, v13, v14, v15, .ref h1, v16, v17, v18, .int 0, v19, v20, v21, v22, v23, .int 0, .int (-1), v24, v25, v26, v27, v28, v29, v30, v31, v32, v33, v34, v35, v36, v37, v38, v39, v40, v41, v42, v43, v44, v45]))]) [0] rfl
    have hDc := hD.sub (ws' := [(h0, .inr (11, [v0, v1, v2, v3, v4, v5, v6, v7, v8, v9, v10, v11, v12, v13, v14, v15, .ref h1, v16, v17, v18, .int 0, v19, v20, v21, v22, v23, .int 0, .int (-1), v24, v25, v26, v27, v28, v29, v30, v31, v32, v33, v34, v35, v36, v37, v38, v39, v40, v41, v42, v43, v44, v45]))]) [0] (by decide) rfl
    refine kn_calli (wr := [(h1, .inl (cI, 2, .inl (fun _ => 0)))]) (cells' := 0) (slots' := 0) (va_runV (As := [.int 0]) (rest := []) ⟨hx, hb, hml, hown, hts⟩ (c_X12_show l D cI cJ cZ cB H.size h0 v0 v1 v2 v3 v4 v5 v6 v7 v8 v9 v10 v11 v12 v13 v14 v15 (.ref h1) v16 v17 v18 (.int 0) v19 v20 v21 v22 v23 v24 v25 v26 v27 v28 v29 v30 v31 v32 v33 v34 v35 v36 v37 v38 v39 v40 v41 v42 v43 v44 v45) (cwV 1 hts (goodIn_app (goodIn_of _ (by decide +kernel)) gs_X12_whole__X12_show) rfl rfl rfl (by decide +kernel) ⟨(Nat.le_of_ble_eq_true rfl), (Nat.le_of_ble_eq_true rfl)⟩) (kp_V 0 11 rfl rfl hPc hK hN hDc) rfl rfl hl.1 rfl (lv_room (Nat.le_of_ble_eq_true rfl)) dX12_whole_38 ⟨(Nat.le_of_ble_eq_true rfl), (Nat.le_of_ble_eq_true rfl)⟩) hS hA hP hD [0] [1] rfl rfl (by decide) (by decide) (Nat.le_of_ble_eq_true rfl) (Nat.le_of_ble_eq_true rfl) (fun r_570 u H locs hw_571 hP hD hS => ?_)
    have hP : va_P D vwCl [(h1, .inl (cI, 2, .inl (fun _ => 0))), (h0, .inr (11, [v0, v1, v2, v3, v4, v5, v6, v7, v8, v9, v10, v11, v12, v13, v14, v15, .ref h1, v16, v17, v18, .int 0, v19, v20, v21, v22, v23, .int 0, .int (-1), v24, v25, v26, v27, v28, v29, v30, v31, v32, .int (-1), v34, .int 0, v36, v37, v38, v39, v40, v41, v42, v43, v44, v45]))] H := hP
    have hD : va_D A [(h1, .inl (cI, 2, .inl (fun _ => 0))), (h0, .inr (11, [v0, v1, v2, v3, v4, v5, v6, v7, v8, v9, v10, v11, v12, v13, v14, v15, .ref h1, v16, v17, v18, .int 0, v19, v20, v21, v22, v23, .int 0, .int (-1), v24, v25, v26, v27, v28, v29, v30, v31, v32, .int (-1), v34, .int 0, v36, v37, v38, v39, v40, v41, v42, v43, v44, v45]))] := hD
    subst hw_571
    have hP9 := hP.sub (ws' := [(h0, .inr (11, [v0, v1, v2, v3, v4, v5, v6, v7, v8, v9, v10, v11, v12, v13, v14, v15, .ref h1, v16, v17, v18, .int 0, v19, v20, v21, v22, v23, .int 0, .int (-1), v24, v25, v26, v27, v28, v29, v30, v31, v32, .int (-1), v34, .int 0, v36, v37, v38, v39, v40, v41, v42, v43, v44, v45])), (h1, .inl (cI, 2, .inl (fun _ => 0)))]) [1, 0] rfl
    have hD9 := hD.sub (ws' := [(h0, .inr (11, [v0, v1, v2, v3, v4, v5, v6, v7, v8, v9, v10, v11, v12, v13, v14, v15, .ref h1, v16, v17, v18, .int 0, v19, v20, v21, v22, v23, .int 0, .int (-1), v24, v25, v26, v27, v28, v29, v30, v31, v32, .int (-1), v34, .int 0, v36, v37, v38, v39, v40, v41, v42, v43, v44, v45])), (h1, .inl (cI, 2, .inl (fun _ => 0)))]) [1, 0] (by decide) rfl
    exact W.iret (v := 0) hx hb hr (fun t ht hW => ⟨⟨0, (), rfl, rfl, by rw [ht]; exact hP9, hD9⟩, hS.F ht⟩) hS.2.2 dX12_whole_41
  · skip
    exact absurd rfl c_569
def o_X9_lineOf_k1 : List Cond := [.fieldLink RX9 22 "EarTable$View" "size" "I"]
def u_X9_lineOf_k1 : List Cond := .code yX9_lineOf cX9_lineOf 2 (some .int) :: (o_X9_lineOf_k1 ++ (wsX90 ++ ([] : List Cond)))
theorem inw_X9_lineOf_k1_X9 : ∀ w ∈ wsX90, w ∈ u_X9_lineOf_k1 := fun w h => List.mem_cons_of_mem _ (List.mem_append_right _ (List.mem_append_left _ h))
set_option maxRecDepth 20000 in
theorem good_X9_lineOf_k1 : u_X9_lineOf_k1.all goodWord = true := by decide +kernel
set_option maxRecDepth 20000 in
theorem in_X9_lineOf_k1 : ∀ w ∈ u_X9_lineOf_k1, w ∈ lw_tbl := ma_cons inc_X9_lineOf (ma_app (ma_pos o_X9_lineOf_k1 [217] (by decide +kernel)) (ma_app inb_X9 ma_nil))
set_option maxHeartbeats 4000000 in
set_option maxRecDepth 100000 in
theorem c_X9_lineOf_k1 (l : Launch) (D : va_G) (cI cJ cZ cB : ClassId) (sz : Nat) (h0 : Nat) (v0 : Value) (v1 : Value) (v2 : Value) (v3 : Value) (p1 : Int32) : Met l yX9_lineOf u_X9_lineOf_k1 ({ frames := 0, cells := 0, slots := 0, locals := 0 }) (va_Pc [.ref h0, .int p1] (kPre D cI cJ cZ cB [(h0, .inr (8, [v0, v1, v2, .int 0, v3]))] sz)) (va_Qi (fun (r : Int32) (_ : Unit) => r = (-1)) (kB D (fun (u : Unit) => [(h0, .inr (8, [v0, v1, v2, .int 0, v3]))]) (va_A [(h0, .inr (8, [v0, v1, v2, .int 0, v3]))] sz)) (va_A [(h0, .inr (8, [v0, v1, v2, .int 0, v3]))] sz)) 0 0 (va_A [(h0, .inr (8, [v0, v1, v2, .int 0, v3]))] sz) := by
  refine Met.ofW (cc := cX9_lineOf) (maxL := 2) (ret := (some .int)) (by decide) rfl ?_
  intro p e s m args below meth c s₁ B hml hv
  obtain ⟨rfl, hsz, hP, hK, hN, hD0⟩ := hv
  have hx := B.exec
  have hb := B.bytes
  have hr := B.returns
  have hts := atoms_spec (ws := u_X9_lineOf_k1) B.pre
  have hown : s.vm.findClass RX9 = some m.cls := findClass_of_methodNamed B.named
  have hlocks := B.notSynchronized
  subst hsz
  have hD := hD0.self (sz := s.heap.size)
  generalize hAe : va_A [(h0, .inr (8, [v0, v1, v2, .int 0, v3]))] s.heap.size = A at hD ⊢
  have hA : ∀ q : Nat, s.heap.size ≤ q → A q := fun q h => by rw [← hAe]; exact Or.inr h
  have hS : va_S A s.heap s.heap [] := va_S.rf
  have hP : va_P D vwCl [(h0, .inr (8, [v0, v1, v2, .int 0, v3]))] s.heap := hP
  have hl := lv_entry ([.ref h0, .int p1]) (n := 2) (Nat.le_of_ble_eq_true rfl)
  rw [lg_entry_eq]
  generalize (lg_sl ([.ref h0, .int p1]) ++ List.replicate (2 - (lg_sl ([.ref h0, .int p1])).length) Slot.unset).toArray = ls at hl ⊢
  have hl : lv_has ls 2 [(0, .ref h0), (1, .int p1)] := hl
  obtain ⟨H, hHe⟩ : ∃ H, s.heap = H := ⟨_, rfl⟩
  have hP : va_P D vwCl [(h0, .inr (8, [v0, v1, v2, .int 0, v3]))] H := by rw [← hHe]; exact hP
  have hS : va_S A s.heap H [] := by rw [← hHe]; exact hS
  refine kn_heap hHe ?_
  refine lv_iload_n hx hb dX9_lineOf_0 rfl (lv_at hl 1 rfl) ?_
  refine lv_if_lt (tgt := 21) hx hb dX9_lineOf_1 (by decide) (fun c_575 => ?_) (fun c_575 => ?_)
  · skip
    refine lv_iconst (v := (-1)) hx hb dX9_lineOf_21 (by decide) ?_
    have hP9 := hP.sub (ws' := [(h0, .inr (8, [v0, v1, v2, .int 0, v3]))]) [0] rfl
    have hD9 := hD.sub (ws' := [(h0, .inr (8, [v0, v1, v2, .int 0, v3]))]) [0] (by decide) rfl
    exact W.iret (v := (-1)) hx hb hr (fun t ht hW => ⟨⟨(-1), (), rfl, rfl, by rw [ht]; exact hP9, hD9⟩, hS.F ht⟩) hS.2.2 dX9_lineOf_22
  · skip
    refine lv_iload_n hx hb dX9_lineOf_4 rfl (lv_at hl 1 rfl) ?_
    refine lv_aload_n hx hb dX9_lineOf_5 rfl (lv_at hl 0 rfl) ?_
    refine va_get (D := D) (ci := 8) (v := .int 0) (C := RX9) (T := TX9) (N := 5) hx hb hts inw_X9_lineOf_k1_X9 hown hK hP 0 rfl rfl 3 (by decide) (hts (.fieldLink RX9 22 "EarTable$View" "size" "I") (by decide +kernel)) (fun _ h9 => h9) rfl dX9_lineOf_6 ?_
    refine lv_icmp_ge (tgt := 21) hx hb dX9_lineOf_9 (by decide) (fun c_576 => ?_) (fun c_576 => ?_)
    · skip
      refine lv_iconst (v := (-1)) hx hb dX9_lineOf_21 (by decide) ?_
      have hP9 := hP.sub (ws' := [(h0, .inr (8, [v0, v1, v2, .int 0, v3]))]) [0] rfl
      have hD9 := hD.sub (ws' := [(h0, .inr (8, [v0, v1, v2, .int 0, v3]))]) [0] (by decide) rfl
      exact W.iret (v := (-1)) hx hb hr (fun t ht hW => ⟨⟨(-1), (), rfl, rfl, by rw [ht]; exact hP9, hD9⟩, hS.F ht⟩) hS.2.2 dX9_lineOf_22
    · skip
      exfalso
      simp only [Int32.lt_iff_toInt_lt, Int32.le_iff_toInt_le] at c_575 c_576
      have k0 : (0 : Int32).toInt = 0 := by decide
      omega
def o_X11_lineAt : List Cond := [.fieldLink RX11 37 "EarTable" "view" "LEarTable$View;", .methodLink RX11 162 yX9_lineOf, .instanceMethod yX9_lineOf, .selects RX9 yX9_lineOf yX9_lineOf, .initialized RX9]
def u_X11_lineAt : List Cond := .code yX11_lineAt cX11_lineAt 2 (some .int) :: (o_X11_lineAt ++ (u_X9_lineOf_k1 ++ (wsX110 ++ ([] : List Cond))))
theorem gs_X11_lineAt__X9_lineOf_k1 : GoodIn u_X11_lineAt u_X9_lineOf_k1 := goodIn_sub (fun w h => List.mem_cons_of_mem _ (List.mem_append_right _ (List.mem_append_left _ h))) good_X9_lineOf_k1
theorem inw_X11_lineAt_X11 : ∀ w ∈ wsX110, w ∈ u_X11_lineAt := fun w h => List.mem_cons_of_mem _ (List.mem_append_right _ (List.mem_append_right _ (List.mem_append_left _ h)))
set_option maxRecDepth 20000 in
theorem good_X11_lineAt : u_X11_lineAt.all goodWord = true := by decide +kernel
set_option maxRecDepth 20000 in
theorem in_X11_lineAt : ∀ w ∈ u_X11_lineAt, w ∈ lw_tbl := ma_cons inc_X11_lineAt (ma_app (ma_pos o_X11_lineAt [387, 628, 373, 374, 69] (by decide +kernel)) (ma_app in_X9_lineOf_k1 (ma_app inb_X11 ma_nil)))
set_option maxHeartbeats 4000000 in
set_option maxRecDepth 100000 in
theorem c_X11_lineAt (l : Launch) (D : va_G) (cI cJ cZ cB : ClassId) (sz : Nat) (h0 : Nat) (h1 : Nat) (v0 : Value) (v1 : Value) (v2 : Value) (v3 : Value) (v4 : Value) (v5 : Value) (v6 : Value) (v7 : Value) (v8 : Value) (v9 : Value) (v10 : Value) (v11 : Value) (v12 : Value) (v13 : Value) (v14 : Value) (v15 : Value) (p1 : Int32) : Met l yX11_lineAt u_X11_lineAt ({ frames := 1, cells := 0, slots := 0, locals := 21 }) (va_Pc [.ref h0, .int p1] (kPre D cI cJ cZ cB [(h0, .inr (10, [v0, v1, v2, .ref h1, v3, v4, v5, v6, v7, v8, v9, v10, v11])), (h1, .inr (8, [v12, v13, v14, .int 0, v15]))] sz)) (va_Qi (fun (r : Int32) (_ : Unit) => r = (-1)) (kB D (fun (u : Unit) => [(h0, .inr (10, [v0, v1, v2, .ref h1, v3, v4, v5, v6, v7, v8, v9, v10, v11])), (h1, .inr (8, [v12, v13, v14, .int 0, v15]))]) (va_A [(h0, .inr (10, [v0, v1, v2, .ref h1, v3, v4, v5, v6, v7, v8, v9, v10, v11])), (h1, .inr (8, [v12, v13, v14, .int 0, v15]))] sz)) (va_A [(h0, .inr (10, [v0, v1, v2, .ref h1, v3, v4, v5, v6, v7, v8, v9, v10, v11])), (h1, .inr (8, [v12, v13, v14, .int 0, v15]))] sz)) 0 0 (va_A [(h0, .inr (10, [v0, v1, v2, .ref h1, v3, v4, v5, v6, v7, v8, v9, v10, v11])), (h1, .inr (8, [v12, v13, v14, .int 0, v15]))] sz) := by
  refine Met.ofW (cc := cX11_lineAt) (maxL := 2) (ret := (some .int)) (by decide) rfl ?_
  intro p e s m args below meth c s₁ B hml hv
  obtain ⟨rfl, hsz, hP, hK, hN, hD0⟩ := hv
  have hx := B.exec
  have hb := B.bytes
  have hr := B.returns
  have hts := atoms_spec (ws := u_X11_lineAt) B.pre
  have hown : s.vm.findClass RX11 = some m.cls := findClass_of_methodNamed B.named
  have hlocks := B.notSynchronized
  subst hsz
  have hD := hD0.self (sz := s.heap.size)
  generalize hAe : va_A [(h0, .inr (10, [v0, v1, v2, .ref h1, v3, v4, v5, v6, v7, v8, v9, v10, v11])), (h1, .inr (8, [v12, v13, v14, .int 0, v15]))] s.heap.size = A at hD ⊢
  have hA : ∀ q : Nat, s.heap.size ≤ q → A q := fun q h => by rw [← hAe]; exact Or.inr h
  have hS : va_S A s.heap s.heap [] := va_S.rf
  have hP : va_P D vwCl [(h0, .inr (10, [v0, v1, v2, .ref h1, v3, v4, v5, v6, v7, v8, v9, v10, v11])), (h1, .inr (8, [v12, v13, v14, .int 0, v15]))] s.heap := hP
  have hl := lv_entry ([.ref h0, .int p1]) (n := 2) (Nat.le_of_ble_eq_true rfl)
  rw [lg_entry_eq]
  generalize (lg_sl ([.ref h0, .int p1]) ++ List.replicate (2 - (lg_sl ([.ref h0, .int p1])).length) Slot.unset).toArray = ls at hl ⊢
  have hl : lv_has ls 2 [(0, .ref h0), (1, .int p1)] := hl
  obtain ⟨H, hHe⟩ : ∃ H, s.heap = H := ⟨_, rfl⟩
  have hP : va_P D vwCl [(h0, .inr (10, [v0, v1, v2, .ref h1, v3, v4, v5, v6, v7, v8, v9, v10, v11])), (h1, .inr (8, [v12, v13, v14, .int 0, v15]))] H := by rw [← hHe]; exact hP
  have hS : va_S A s.heap H [] := by rw [← hHe]; exact hS
  refine kn_heap hHe ?_
  refine lv_aload_n hx hb dX11_lineAt_0 rfl (lv_at hl 0 rfl) ?_
  refine va_get (D := D) (ci := 10) (v := .ref h1) (C := RX11) (T := TX11) (N := 13) hx hb hts inw_X11_lineAt_X11 hown hK hP 0 rfl rfl 3 (by decide) (hts (.fieldLink RX11 37 "EarTable" "view" "LEarTable$View;") (by decide +kernel)) (fun _ h9 => h9) rfl dX11_lineAt_1 ?_
  refine lv_iload_n hx hb dX11_lineAt_4 rfl (lv_at hl 1 rfl) ?_
  have hPc := hP.sub (ws' := [(h1, .inr (8, [v12, v13, v14, .int 0, v15]))]) [1] rfl
  have hDc := hD.sub (ws' := [(h1, .inr (8, [v12, v13, v14, .int 0, v15]))]) [1] (by decide) rfl
  refine kn_calli (wr := [(h0, .inr (10, [v0, v1, v2, .ref h1, v3, v4, v5, v6, v7, v8, v9, v10, v11]))]) (cells' := 0) (slots' := 0) (va_runV (As := [.int p1]) (rest := []) ⟨hx, hb, hml, hown, hts⟩ (c_X9_lineOf_k1 l D cI cJ cZ cB H.size h1 v12 v13 v14 v15 p1) (cwV 1 hts (goodIn_app (goodIn_of _ (by decide +kernel)) gs_X11_lineAt__X9_lineOf_k1) rfl rfl rfl (by decide +kernel) ⟨(Nat.le_of_ble_eq_true rfl), (Nat.le_of_ble_eq_true rfl)⟩) (kp_V 0 8 rfl rfl hPc hK hN hDc) rfl rfl hl.1 rfl (lv_room (Nat.le_of_ble_eq_true rfl)) dX11_lineAt_5 ⟨(Nat.le_of_ble_eq_true rfl), (Nat.le_of_ble_eq_true rfl)⟩) hS hA hP hD [1] [0] rfl rfl (by decide) (by decide) (Nat.le_of_ble_eq_true rfl) (Nat.le_of_ble_eq_true rfl) (fun r_575 u H locs hw_576 hP hD hS => ?_)
  have hP : va_P D vwCl [(h0, .inr (10, [v0, v1, v2, .ref h1, v3, v4, v5, v6, v7, v8, v9, v10, v11])), (h1, .inr (8, [v12, v13, v14, .int 0, v15]))] H := hP
  have hD : va_D A [(h0, .inr (10, [v0, v1, v2, .ref h1, v3, v4, v5, v6, v7, v8, v9, v10, v11])), (h1, .inr (8, [v12, v13, v14, .int 0, v15]))] := hD
  subst hw_576
  have hP9 := hP.sub (ws' := [(h0, .inr (10, [v0, v1, v2, .ref h1, v3, v4, v5, v6, v7, v8, v9, v10, v11])), (h1, .inr (8, [v12, v13, v14, .int 0, v15]))]) [0, 1] rfl
  have hD9 := hD.sub (ws' := [(h0, .inr (10, [v0, v1, v2, .ref h1, v3, v4, v5, v6, v7, v8, v9, v10, v11])), (h1, .inr (8, [v12, v13, v14, .int 0, v15]))]) [0, 1] (by decide) rfl
  exact W.iret (v := (-1)) hx hb hr (fun t ht hW => ⟨⟨(-1), (), rfl, rfl, by rw [ht]; exact hP9, hD9⟩, hS.F ht⟩) hS.2.2 dX11_lineAt_8
