def o_X5_stepAt_k1 : List Cond := []
def u_X5_stepAt_k1 : List Cond := .code yX5_stepAt cX5_stepAt 4 (some .int) :: (o_X5_stepAt_k1 ++ ([] : List Cond))
set_option maxRecDepth 20000 in
theorem good_X5_stepAt_k1 : u_X5_stepAt_k1.all goodWord = true := by decide +kernel
set_option maxRecDepth 20000 in
theorem in_X5_stepAt_k1 : ∀ w ∈ u_X5_stepAt_k1, w ∈ lw_tbl := ma_cons inc_X5_stepAt (ma_app (ma_pos o_X5_stepAt_k1 [] (by decide +kernel)) ma_nil)
set_option maxHeartbeats 4000000 in
set_option maxRecDepth 100000 in
theorem c_X5_stepAt_k1 (l : Launch) (D : va_G) (cI cJ cZ cB : ClassId) (sz : Nat) (h0 : Nat) (v0 : Value) (v1 : Value) (p2 : Int32) : Met l yX5_stepAt u_X5_stepAt_k1 ({ frames := 0, cells := 0, slots := 0, locals := 0 }) (va_Pc [.ref h0, .int (-1), .int p2] (kPre D cI cJ cZ cB [(h0, .inr (4, [v0, v1]))] sz)) (va_Qi (fun (r : Int32) (_ : Unit) => r = (-1)) (kB D (fun (u : Unit) => [(h0, .inr (4, [v0, v1]))]) (va_A [(h0, .inr (4, [v0, v1]))] sz)) (va_A [(h0, .inr (4, [v0, v1]))] sz)) 0 0 (va_A [(h0, .inr (4, [v0, v1]))] sz) := by
  refine Met.ofW (cc := cX5_stepAt) (maxL := 4) (ret := (some .int)) (by decide) rfl ?_
  intro p e s m args below meth c s₁ B hml hv
  obtain ⟨rfl, hsz, hP, hK, hN, hD0⟩ := hv
  have hx := B.exec
  have hb := B.bytes
  have hr := B.returns
  have hts := atoms_spec (ws := u_X5_stepAt_k1) B.pre
  have hown : s.vm.findClass RX5 = some m.cls := findClass_of_methodNamed B.named
  have hlocks := B.notSynchronized
  subst hsz
  have hD := hD0.self (sz := s.heap.size)
  generalize hAe : va_A [(h0, .inr (4, [v0, v1]))] s.heap.size = A at hD ⊢
  have hA : ∀ q : Nat, s.heap.size ≤ q → A q := fun q h => by rw [← hAe]; exact Or.inr h
  have hS : va_S A s.heap s.heap [] := va_S.rf
  have hP : va_P D vwCl [(h0, .inr (4, [v0, v1]))] s.heap := hP
  have hl := lv_entry ([.ref h0, .int (-1), .int p2]) (n := 4) (Nat.le_of_ble_eq_true rfl)
  rw [lg_entry_eq]
  generalize (lg_sl ([.ref h0, .int (-1), .int p2]) ++ List.replicate (4 - (lg_sl ([.ref h0, .int (-1), .int p2])).length) Slot.unset).toArray = ls at hl ⊢
  have hl : lv_has ls 4 [(0, .ref h0), (1, .int (-1)), (2, .int p2)] := hl
  obtain ⟨H, hHe⟩ : ∃ H, s.heap = H := ⟨_, rfl⟩
  have hP : va_P D vwCl [(h0, .inr (4, [v0, v1]))] H := by rw [← hHe]; exact hP
  have hS : va_S A s.heap H [] := by rw [← hHe]; exact hS
  refine kn_heap hHe ?_
  refine lv_iload_n hx hb dX5_stepAt_0 rfl (lv_at hl 1 rfl) ?_
  refine lv_if_lt (tgt := 30) hx hb dX5_stepAt_1 (by decide) (fun c_678 => ?_) (fun c_678 => ?_)
  · skip
    refine lv_iconst (v := 0) hx hb dX5_stepAt_30 (by decide) ?_
    refine lv_istore_n (lv' := [(3, .int 0), (0, .ref h0), (1, .int (-1)), (2, .int p2)]) hx hb dX5_stepAt_31 rfl hl (by decide) rfl (fun ls hl => ?_)
    refine lv_iload_n hx hb dX5_stepAt_32 rfl (lv_at hl 0 rfl) ?_
    refine lv_if_eq (tgt := 45) hx hb dX5_stepAt_33 (by decide) (fun c_679 => ?_) (fun c_679 => ?_)
    · skip
      refine lv_iconst (v := (-1)) hx hb dX5_stepAt_45 (by decide) ?_
      have hP9 := hP.sub (ws' := [(h0, .inr (4, [v0, v1]))]) [0] rfl
      have hD9 := hD.sub (ws' := [(h0, .inr (4, [v0, v1]))]) [0] (by decide) rfl
      exact W.iret (v := (-1)) hx hb hr (fun t ht hW => ⟨⟨(-1), (), rfl, rfl, by rw [ht]; exact hP9, hD9⟩, hS.F ht⟩) hS.2.2 dX5_stepAt_46
    · skip
      exact absurd rfl c_679
  · skip
    exact absurd (by decide) c_678
def o_X5_stepOf_k1 : List Cond := [.fieldLink RX5 15 "EarTable$Steps" "view" "LEarTable$View;", .methodLink RX5 19 yX9_positionOf, .instanceMethod yX9_positionOf, .selects RX9 yX9_positionOf yX9_positionOf, .initialized RX9, .methodLink RX5 25 yX5_stepAt, .instanceMethod yX5_stepAt, .selects RX5 yX5_stepAt yX5_stepAt, .initialized RX5]
def u_X5_stepOf_k1 : List Cond := .code yX5_stepOf cX5_stepOf 3 (some .int) :: (o_X5_stepOf_k1 ++ (u_X9_positionOf_k1 ++ (u_X5_stepAt_k1 ++ (wsX50 ++ ([] : List Cond)))))
theorem gs_X5_stepOf_k1__X9_positionOf_k1 : GoodIn u_X5_stepOf_k1 u_X9_positionOf_k1 := goodIn_sub (fun w h => List.mem_cons_of_mem _ (List.mem_append_right _ (List.mem_append_left _ h))) good_X9_positionOf_k1
theorem gs_X5_stepOf_k1__X5_stepAt_k1 : GoodIn u_X5_stepOf_k1 u_X5_stepAt_k1 := goodIn_sub (fun w h => List.mem_cons_of_mem _ (List.mem_append_right _ (List.mem_append_right _ (List.mem_append_left _ h)))) good_X5_stepAt_k1
theorem inw_X5_stepOf_k1_X5 : ∀ w ∈ wsX50, w ∈ u_X5_stepOf_k1 := fun w h => List.mem_cons_of_mem _ (List.mem_append_right _ (List.mem_append_right _ (List.mem_append_right _ (List.mem_append_left _ h))))
set_option maxRecDepth 20000 in
theorem good_X5_stepOf_k1 : u_X5_stepOf_k1.all goodWord = true := by decide +kernel
set_option maxRecDepth 20000 in
theorem in_X5_stepOf_k1 : ∀ w ∈ u_X5_stepOf_k1, w ∈ lw_tbl := ma_cons inc_X5_stepOf (ma_app (ma_pos o_X5_stepOf_k1 [239, 641, 377, 378, 69, 642, 644, 15, 70] (by decide +kernel)) (ma_app in_X9_positionOf_k1 (ma_app in_X5_stepAt_k1 (ma_app inb_X5 ma_nil))))
set_option maxHeartbeats 4000000 in
set_option maxRecDepth 100000 in
theorem c_X5_stepOf_k1 (l : Launch) (D : va_G) (cI cJ cZ cB : ClassId) (sz : Nat) (h0 : Nat) (h1 : Nat) (v0 : Value) (v1 : Value) (v2 : Value) (v3 : Value) (v4 : Value) (p1 : Int32) (p2 : Int32) : Met l yX5_stepOf u_X5_stepOf_k1 ({ frames := 1, cells := 0, slots := 0, locals := 23 }) (va_Pc [.ref h0, .int p1, .int p2] (kPre D cI cJ cZ cB [(h0, .inr (4, [v0, .ref h1])), (h1, .inr (8, [v1, v2, v3, .int 0, v4]))] sz)) (va_Qi (fun (r : Int32) (_ : Unit) => r = (-1)) (kB D (fun (u : Unit) => [(h0, .inr (4, [v0, .ref h1])), (h1, .inr (8, [v1, v2, v3, .int 0, v4]))]) (va_A [(h0, .inr (4, [v0, .ref h1])), (h1, .inr (8, [v1, v2, v3, .int 0, v4]))] sz)) (va_A [(h0, .inr (4, [v0, .ref h1])), (h1, .inr (8, [v1, v2, v3, .int 0, v4]))] sz)) 0 0 (va_A [(h0, .inr (4, [v0, .ref h1])), (h1, .inr (8, [v1, v2, v3, .int 0, v4]))] sz) := by
  refine Met.ofW (cc := cX5_stepOf) (maxL := 3) (ret := (some .int)) (by decide) rfl ?_
  intro p e s m args below meth c s₁ B hml hv
  obtain ⟨rfl, hsz, hP, hK, hN, hD0⟩ := hv
  have hx := B.exec
  have hb := B.bytes
  have hr := B.returns
  have hts := atoms_spec (ws := u_X5_stepOf_k1) B.pre
  have hown : s.vm.findClass RX5 = some m.cls := findClass_of_methodNamed B.named
  have hlocks := B.notSynchronized
  subst hsz
  have hD := hD0.self (sz := s.heap.size)
  generalize hAe : va_A [(h0, .inr (4, [v0, .ref h1])), (h1, .inr (8, [v1, v2, v3, .int 0, v4]))] s.heap.size = A at hD ⊢
  have hA : ∀ q : Nat, s.heap.size ≤ q → A q := fun q h => by rw [← hAe]; exact Or.inr h
  have hS : va_S A s.heap s.heap [] := va_S.rf
  have hP : va_P D vwCl [(h0, .inr (4, [v0, .ref h1])), (h1, .inr (8, [v1, v2, v3, .int 0, v4]))] s.heap := hP
  have hl := lv_entry ([.ref h0, .int p1, .int p2]) (n := 3) (Nat.le_of_ble_eq_true rfl)
  rw [lg_entry_eq]
  generalize (lg_sl ([.ref h0, .int p1, .int p2]) ++ List.replicate (3 - (lg_sl ([.ref h0, .int p1, .int p2])).length) Slot.unset).toArray = ls at hl ⊢
  have hl : lv_has ls 3 [(0, .ref h0), (1, .int p1), (2, .int p2)] := hl
  obtain ⟨H, hHe⟩ : ∃ H, s.heap = H := ⟨_, rfl⟩
  have hP : va_P D vwCl [(h0, .inr (4, [v0, .ref h1])), (h1, .inr (8, [v1, v2, v3, .int 0, v4]))] H := by rw [← hHe]; exact hP
  have hS : va_S A s.heap H [] := by rw [← hHe]; exact hS
  refine kn_heap hHe ?_
  refine lv_aload_n hx hb dX5_stepOf_0 rfl (lv_at hl 0 rfl) ?_
  refine lv_aload_n hx hb dX5_stepOf_1 rfl (lv_at hl 0 rfl) ?_
  refine va_get (D := D) (ci := 4) (v := .ref h1) (C := RX5) (T := TX5) (N := 2) hx hb hts inw_X5_stepOf_k1_X5 hown hK hP 0 rfl rfl 1 (by decide) (hts (.fieldLink RX5 15 "EarTable$Steps" "view" "LEarTable$View;") (by decide +kernel)) (fun _ h9 => h9) rfl dX5_stepOf_2 ?_
  refine lv_iload_n hx hb dX5_stepOf_5 rfl (lv_at hl 1 rfl) ?_
  have hPc := hP.sub (ws' := [(h1, .inr (8, [v1, v2, v3, .int 0, v4]))]) [1] rfl
  have hDc := hD.sub (ws' := [(h1, .inr (8, [v1, v2, v3, .int 0, v4]))]) [1] (by decide) rfl
  refine kn_calli (wr := [(h0, .inr (4, [v0, .ref h1]))]) (cells' := 0) (slots' := 0) (va_runV (As := [.int p1]) (rest := [.ref h0]) ⟨hx, hb, hml, hown, hts⟩ (c_X9_positionOf_k1 l D cI cJ cZ cB H.size h1 v1 v2 v3 v4 p1) (cwV 1 hts (goodIn_app (goodIn_of _ (by decide +kernel)) gs_X5_stepOf_k1__X9_positionOf_k1) rfl rfl rfl (by decide +kernel) ⟨(Nat.le_of_ble_eq_true rfl), (Nat.le_of_ble_eq_true rfl)⟩) (kp_V 0 8 rfl rfl hPc hK hN hDc) rfl rfl hl.1 rfl (lv_room (Nat.le_of_ble_eq_true rfl)) dX5_stepOf_6 ⟨(Nat.le_of_ble_eq_true rfl), (Nat.le_of_ble_eq_true rfl)⟩) hS hA hP hD [1] [0] rfl rfl (by decide) (by decide) (Nat.le_of_ble_eq_true rfl) (Nat.le_of_ble_eq_true rfl) (fun r_676 u H locs hw_677 hP hD hS => ?_)
  have hP : va_P D vwCl [(h0, .inr (4, [v0, .ref h1])), (h1, .inr (8, [v1, v2, v3, .int 0, v4]))] H := hP
  have hD : va_D A [(h0, .inr (4, [v0, .ref h1])), (h1, .inr (8, [v1, v2, v3, .int 0, v4]))] := hD
  subst hw_677
  refine lv_iload_n hx hb dX5_stepOf_9 rfl (lv_at hl 2 rfl) ?_
  have hPc := hP.sub (ws' := [(h0, .inr (4, [v0, .ref h1]))]) [0] rfl
  have hDc := hD.sub (ws' := [(h0, .inr (4, [v0, .ref h1]))]) [0] (by decide) rfl
  refine kn_calli (wr := [(h1, .inr (8, [v1, v2, v3, .int 0, v4]))]) (cells' := 0) (slots' := 0) (va_runV (As := [.int (-1), .int p2]) (rest := []) ⟨hx, hb, hml, hown, hts⟩ (c_X5_stepAt_k1 l D cI cJ cZ cB H.size h0 v0 (.ref h1) p2) (cwV 2 hts (goodIn_app (goodIn_of _ (by decide +kernel)) gs_X5_stepOf_k1__X5_stepAt_k1) rfl rfl rfl (by decide +kernel) ⟨(Nat.le_of_ble_eq_true rfl), (Nat.le_of_ble_eq_true rfl)⟩) (kp_V 0 4 rfl rfl hPc hK hN hDc) rfl rfl hl.1 rfl (lv_room (Nat.le_of_ble_eq_true rfl)) dX5_stepOf_10 ⟨(Nat.le_of_ble_eq_true rfl), (Nat.le_of_ble_eq_true rfl)⟩) hS hA hP hD [0] [1] rfl rfl (by decide) (by decide) (Nat.le_of_ble_eq_true rfl) (Nat.le_of_ble_eq_true rfl) (fun r_678 u H locs hw_679 hP hD hS => ?_)
  have hP : va_P D vwCl [(h1, .inr (8, [v1, v2, v3, .int 0, v4])), (h0, .inr (4, [v0, .ref h1]))] H := hP
  have hD : va_D A [(h1, .inr (8, [v1, v2, v3, .int 0, v4])), (h0, .inr (4, [v0, .ref h1]))] := hD
  subst hw_679
  have hP9 := hP.sub (ws' := [(h0, .inr (4, [v0, .ref h1])), (h1, .inr (8, [v1, v2, v3, .int 0, v4]))]) [1, 0] rfl
  have hD9 := hD.sub (ws' := [(h0, .inr (4, [v0, .ref h1])), (h1, .inr (8, [v1, v2, v3, .int 0, v4]))]) [1, 0] (by decide) rfl
  exact W.iret (v := (-1)) hx hb hr (fun t ht hW => ⟨⟨(-1), (), rfl, rfl, by rw [ht]; exact hP9, hD9⟩, hS.F ht⟩) hS.2.2 dX5_stepOf_13
def o_X11_searchWaysTo : List Cond := [.fieldLink RX11 46 "EarTable" "steps" "LEarTable$Steps;", .fieldLink RX11 165 "EarTable" "placeLine" "I", .fieldLink RX11 168 "EarTable" "placeColumn" "I", .methodLink RX11 171 yX5_stepOf, .instanceMethod yX5_stepOf, .selects RX5 yX5_stepOf yX5_stepOf, .initialized RX5]
def u_X11_searchWaysTo : List Cond := .code yX11_searchWaysTo cX11_searchWaysTo 5 (some .int) :: (o_X11_searchWaysTo ++ (u_X5_stepOf ++ (u_X5_stepOf_k1 ++ (wsX110 ++ ([] : List Cond)))))
theorem gs_X11_searchWaysTo__X5_stepOf : GoodIn u_X11_searchWaysTo u_X5_stepOf := goodIn_sub (fun w h => List.mem_cons_of_mem _ (List.mem_append_right _ (List.mem_append_left _ h))) good_X5_stepOf
theorem gs_X11_searchWaysTo__X5_stepOf_k1 : GoodIn u_X11_searchWaysTo u_X5_stepOf_k1 := goodIn_sub (fun w h => List.mem_cons_of_mem _ (List.mem_append_right _ (List.mem_append_right _ (List.mem_append_left _ h)))) good_X5_stepOf_k1
theorem inw_X11_searchWaysTo_X11 : ∀ w ∈ wsX110, w ∈ u_X11_searchWaysTo := fun w h => List.mem_cons_of_mem _ (List.mem_append_right _ (List.mem_append_right _ (List.mem_append_right _ (List.mem_append_left _ h))))
set_option maxRecDepth 20000 in
theorem good_X11_searchWaysTo : u_X11_searchWaysTo.all goodWord = true := by decide +kernel
set_option maxRecDepth 20000 in
theorem in_X11_searchWaysTo : ∀ w ∈ u_X11_searchWaysTo, w ∈ lw_tbl := ma_cons inc_X11_searchWaysTo (ma_app (ma_pos o_X11_searchWaysTo [388, 395, 396, 637, 638, 639, 70] (by decide +kernel)) (ma_app in_X5_stepOf (ma_app in_X5_stepOf_k1 (ma_app inb_X11 ma_nil))))
set_option maxHeartbeats 4000000 in
set_option maxRecDepth 100000 in
theorem c_X11_searchWaysTo (l : Launch) (D : va_G) (cI cJ cZ cB : ClassId) (sz : Nat) (h0 : Nat) (h1 : Nat) (h2 : Nat) (v0 : Value) (v1 : Value) (v2 : Value) (v3 : Value) (v4 : Value) (v5 : Value) (v6 : Value) (v7 : Value) (v8 : Value) (v9 : Value) (v10 : Value) (v11 : Value) (v12 : Value) (v13 : Value) (v14 : Value) (p1 : Int32) (p2 : Int32) : Met l yX11_searchWaysTo u_X11_searchWaysTo ({ frames := 2, cells := 0, slots := 0, locals := 45 }) (va_Pc [.ref h0, .int p1, .int p2] (kPre D cI cJ cZ cB [(h0, .inr (10, [v0, v1, v2, v3, .ref h1, v4, v5, v6, v7, v8, v9, .int (-1), .int 0])), (h1, .inr (4, [v10, .ref h2])), (h2, .inr (8, [v11, v12, v13, .int 0, v14]))] sz)) (va_Qi (fun (r : Int32) (_ : Unit) => r = (-1)) (kB D (fun (u : Unit) => [(h0, .inr (10, [v0, v1, v2, v3, .ref h1, v4, v5, v6, v7, v8, v9, .int (-1), .int 0])), (h1, .inr (4, [v10, .ref h2])), (h2, .inr (8, [v11, v12, v13, .int 0, v14]))]) (va_A [(h0, .inr (10, [v0, v1, v2, v3, .ref h1, v4, v5, v6, v7, v8, v9, .int (-1), .int 0])), (h1, .inr (4, [v10, .ref h2])), (h2, .inr (8, [v11, v12, v13, .int 0, v14]))] sz)) (va_A [(h0, .inr (10, [v0, v1, v2, v3, .ref h1, v4, v5, v6, v7, v8, v9, .int (-1), .int 0])), (h1, .inr (4, [v10, .ref h2])), (h2, .inr (8, [v11, v12, v13, .int 0, v14]))] sz)) 0 0 (va_A [(h0, .inr (10, [v0, v1, v2, v3, .ref h1, v4, v5, v6, v7, v8, v9, .int (-1), .int 0])), (h1, .inr (4, [v10, .ref h2])), (h2, .inr (8, [v11, v12, v13, .int 0, v14]))] sz) := by
  refine Met.ofW (cc := cX11_searchWaysTo) (maxL := 5) (ret := (some .int)) (by decide) rfl ?_
  intro p e s m args below meth c s₁ B hml hv
  obtain ⟨rfl, hsz, hP, hK, hN, hD0⟩ := hv
  have hx := B.exec
  have hb := B.bytes
  have hr := B.returns
  have hts := atoms_spec (ws := u_X11_searchWaysTo) B.pre
  have hown : s.vm.findClass RX11 = some m.cls := findClass_of_methodNamed B.named
  have hlocks := B.notSynchronized
  subst hsz
  have hD := hD0.self (sz := s.heap.size)
  generalize hAe : va_A [(h0, .inr (10, [v0, v1, v2, v3, .ref h1, v4, v5, v6, v7, v8, v9, .int (-1), .int 0])), (h1, .inr (4, [v10, .ref h2])), (h2, .inr (8, [v11, v12, v13, .int 0, v14]))] s.heap.size = A at hD ⊢
  have hA : ∀ q : Nat, s.heap.size ≤ q → A q := fun q h => by rw [← hAe]; exact Or.inr h
  have hS : va_S A s.heap s.heap [] := va_S.rf
  have hP : va_P D vwCl [(h0, .inr (10, [v0, v1, v2, v3, .ref h1, v4, v5, v6, v7, v8, v9, .int (-1), .int 0])), (h1, .inr (4, [v10, .ref h2])), (h2, .inr (8, [v11, v12, v13, .int 0, v14]))] s.heap := hP
  have hl := lv_entry ([.ref h0, .int p1, .int p2]) (n := 5) (Nat.le_of_ble_eq_true rfl)
  rw [lg_entry_eq]
  generalize (lg_sl ([.ref h0, .int p1, .int p2]) ++ List.replicate (5 - (lg_sl ([.ref h0, .int p1, .int p2])).length) Slot.unset).toArray = ls at hl ⊢
  have hl : lv_has ls 5 [(0, .ref h0), (1, .int p1), (2, .int p2)] := hl
  obtain ⟨H, hHe⟩ : ∃ H, s.heap = H := ⟨_, rfl⟩
  have hP : va_P D vwCl [(h0, .inr (10, [v0, v1, v2, v3, .ref h1, v4, v5, v6, v7, v8, v9, .int (-1), .int 0])), (h1, .inr (4, [v10, .ref h2])), (h2, .inr (8, [v11, v12, v13, .int 0, v14]))] H := by rw [← hHe]; exact hP
  have hS : va_S A s.heap H [] := by rw [← hHe]; exact hS
  refine kn_heap hHe ?_
  refine lv_aload_n hx hb dX11_searchWaysTo_0 rfl (lv_at hl 0 rfl) ?_
  refine va_get (D := D) (ci := 10) (v := .ref h1) (C := RX11) (T := TX11) (N := 13) hx hb hts inw_X11_searchWaysTo_X11 hown hK hP 0 rfl rfl 4 (by decide) (hts (.fieldLink RX11 46 "EarTable" "steps" "LEarTable$Steps;") (by decide +kernel)) (fun _ h9 => h9) rfl dX11_searchWaysTo_1 ?_
  refine lv_aload_n hx hb dX11_searchWaysTo_4 rfl (lv_at hl 0 rfl) ?_
  refine va_get (D := D) (ci := 10) (v := .int (-1)) (C := RX11) (T := TX11) (N := 13) hx hb hts inw_X11_searchWaysTo_X11 hown hK hP 0 rfl rfl 11 (by decide) (hts (.fieldLink RX11 165 "EarTable" "placeLine" "I") (by decide +kernel)) (fun _ h9 => h9) rfl dX11_searchWaysTo_5 ?_
  refine lv_aload_n hx hb dX11_searchWaysTo_8 rfl (lv_at hl 0 rfl) ?_
  refine va_get (D := D) (ci := 10) (v := .int 0) (C := RX11) (T := TX11) (N := 13) hx hb hts inw_X11_searchWaysTo_X11 hown hK hP 0 rfl rfl 12 (by decide) (hts (.fieldLink RX11 168 "EarTable" "placeColumn" "I") (by decide +kernel)) (fun _ h9 => h9) rfl dX11_searchWaysTo_9 ?_
  have hPc := hP.sub (ws' := [(h1, .inr (4, [v10, .ref h2])), (h2, .inr (8, [v11, v12, v13, .int 0, v14]))]) [1, 2] rfl
  have hDc := hD.sub (ws' := [(h1, .inr (4, [v10, .ref h2])), (h2, .inr (8, [v11, v12, v13, .int 0, v14]))]) [1, 2] (by decide) rfl
  refine kn_calli (wr := [(h0, .inr (10, [v0, v1, v2, v3, .ref h1, v4, v5, v6, v7, v8, v9, .int (-1), .int 0]))]) (cells' := 0) (slots' := 0) (va_runV (As := [.int (-1), .int 0]) (rest := []) ⟨hx, hb, hml, hown, hts⟩ (c_X5_stepOf l D cI cJ cZ cB H.size h1 h2 v10 v11 v12 v13 v14) (cwV 2 hts (goodIn_app (goodIn_of _ (by decide +kernel)) gs_X11_searchWaysTo__X5_stepOf) rfl rfl rfl (by decide +kernel) ⟨(Nat.le_of_ble_eq_true rfl), (Nat.le_of_ble_eq_true rfl)⟩) (kp_V 0 4 rfl rfl hPc hK hN hDc) rfl rfl hl.1 rfl (lv_room (Nat.le_of_ble_eq_true rfl)) dX11_searchWaysTo_12 ⟨(Nat.le_of_ble_eq_true rfl), (Nat.le_of_ble_eq_true rfl)⟩) hS hA hP hD [1, 2] [0] rfl rfl (by decide) (by decide) (Nat.le_of_ble_eq_true rfl) (Nat.le_of_ble_eq_true rfl) (fun r_674 u H locs hw_675 hP hD hS => ?_)
  have hP : va_P D vwCl [(h0, .inr (10, [v0, v1, v2, v3, .ref h1, v4, v5, v6, v7, v8, v9, .int (-1), .int 0])), (h1, .inr (4, [v10, .ref h2])), (h2, .inr (8, [v11, v12, v13, .int 0, v14]))] H := hP
  have hD : va_D A [(h0, .inr (10, [v0, v1, v2, v3, .ref h1, v4, v5, v6, v7, v8, v9, .int (-1), .int 0])), (h1, .inr (4, [v10, .ref h2])), (h2, .inr (8, [v11, v12, v13, .int 0, v14]))] := hD
  subst hw_675
  refine lv_istore_n (lv' := [(3, .int (-1)), (0, .ref h0), (1, .int p1), (2, .int p2)]) hx hb dX11_searchWaysTo_15 rfl hl (by decide) rfl (fun ls hl => ?_)
  refine lv_aload_n hx hb dX11_searchWaysTo_16 rfl (lv_at hl 1 rfl) ?_
  refine va_get (D := D) (ci := 10) (v := .ref h1) (C := RX11) (T := TX11) (N := 13) hx hb hts inw_X11_searchWaysTo_X11 hown hK hP 0 rfl rfl 4 (by decide) (hts (.fieldLink RX11 46 "EarTable" "steps" "LEarTable$Steps;") (by decide +kernel)) (fun _ h9 => h9) rfl dX11_searchWaysTo_17 ?_
  refine lv_iload_n hx hb dX11_searchWaysTo_20 rfl (lv_at hl 2 rfl) ?_
  refine lv_iload_n hx hb dX11_searchWaysTo_21 rfl (lv_at hl 3 rfl) ?_
  have hPc := hP.sub (ws' := [(h1, .inr (4, [v10, .ref h2])), (h2, .inr (8, [v11, v12, v13, .int 0, v14]))]) [1, 2] rfl
  have hDc := hD.sub (ws' := [(h1, .inr (4, [v10, .ref h2])), (h2, .inr (8, [v11, v12, v13, .int 0, v14]))]) [1, 2] (by decide) rfl
  refine kn_calli (wr := [(h0, .inr (10, [v0, v1, v2, v3, .ref h1, v4, v5, v6, v7, v8, v9, .int (-1), .int 0]))]) (cells' := 0) (slots' := 0) (va_runV (As := [.int p1, .int p2]) (rest := []) ⟨hx, hb, hml, hown, hts⟩ (c_X5_stepOf_k1 l D cI cJ cZ cB H.size h1 h2 v10 v11 v12 v13 v14 p1 p2) (cwV 2 hts (goodIn_app (goodIn_of _ (by decide +kernel)) gs_X11_searchWaysTo__X5_stepOf_k1) rfl rfl rfl (by decide +kernel) ⟨(Nat.le_of_ble_eq_true rfl), (Nat.le_of_ble_eq_true rfl)⟩) (kp_V 0 4 rfl rfl hPc hK hN hDc) rfl rfl hl.1 rfl (lv_room (Nat.le_of_ble_eq_true rfl)) dX11_searchWaysTo_22 ⟨(Nat.le_of_ble_eq_true rfl), (Nat.le_of_ble_eq_true rfl)⟩) hS hA hP hD [1, 2] [0] rfl rfl (by decide) (by decide) (Nat.le_of_ble_eq_true rfl) (Nat.le_of_ble_eq_true rfl) (fun r_676 u H locs hw_677 hP hD hS => ?_)
  have hP : va_P D vwCl [(h0, .inr (10, [v0, v1, v2, v3, .ref h1, v4, v5, v6, v7, v8, v9, .int (-1), .int 0])), (h1, .inr (4, [v10, .ref h2])), (h2, .inr (8, [v11, v12, v13, .int 0, v14]))] H := hP
  have hD : va_D A [(h0, .inr (10, [v0, v1, v2, v3, .ref h1, v4, v5, v6, v7, v8, v9, .int (-1), .int 0])), (h1, .inr (4, [v10, .ref h2])), (h2, .inr (8, [v11, v12, v13, .int 0, v14]))] := hD
  subst hw_677
  refine lv_istore (lv' := [(4, .int (-1)), (3, .int (-1)), (0, .ref h0), (1, .int p1), (2, .int p2)]) hx hb dX11_searchWaysTo_25 hl (by decide) rfl (fun ls hl => ?_)
  refine lv_iload_n hx hb dX11_searchWaysTo_27 rfl (lv_at hl 1 rfl) ?_
  refine lv_iconst (v := (-1)) hx hb dX11_searchWaysTo_28 (by decide) ?_
  refine lv_icmp_eq (tgt := 38) hx hb dX11_searchWaysTo_29 (by decide) (fun c_678 => ?_) (fun c_678 => ?_)
  · skip
    refine lv_iconst (v := (-1)) hx hb dX11_searchWaysTo_38 (by decide) ?_
    have hP9 := hP.sub (ws' := [(h0, .inr (10, [v0, v1, v2, v3, .ref h1, v4, v5, v6, v7, v8, v9, .int (-1), .int 0])), (h1, .inr (4, [v10, .ref h2])), (h2, .inr (8, [v11, v12, v13, .int 0, v14]))]) [0, 1, 2] rfl
    have hD9 := hD.sub (ws' := [(h0, .inr (10, [v0, v1, v2, v3, .ref h1, v4, v5, v6, v7, v8, v9, .int (-1), .int 0])), (h1, .inr (4, [v10, .ref h2])), (h2, .inr (8, [v11, v12, v13, .int 0, v14]))]) [0, 1, 2] (by decide) rfl
    exact W.iret (v := (-1)) hx hb hr (fun t ht hW => ⟨⟨(-1), (), rfl, rfl, by rw [ht]; exact hP9, hD9⟩, hS.F ht⟩) hS.2.2 dX11_searchWaysTo_39
  · skip
    exact absurd rfl c_678
def o_X11_keys : List Cond := [.methodLink RX11 208 yX11_searchWaysTo, .instanceMethod yX11_searchWaysTo, .selects RX11 yX11_searchWaysTo yX11_searchWaysTo, .initialized RX11]
def u_X11_keys : List Cond := .code yX11_keys cX11_keys 4 (some .int) :: (o_X11_keys ++ (u_X11_searchWaysTo ++ ([] : List Cond)))
theorem gs_X11_keys__X11_searchWaysTo : GoodIn u_X11_keys u_X11_searchWaysTo := goodIn_sub (fun w h => List.mem_cons_of_mem _ (List.mem_append_right _ (List.mem_append_left _ h))) good_X11_searchWaysTo
set_option maxRecDepth 20000 in
theorem good_X11_keys : u_X11_keys.all goodWord = true := by decide +kernel
set_option maxRecDepth 20000 in
theorem in_X11_keys : ∀ w ∈ u_X11_keys, w ∈ lw_tbl := ma_cons inc_X11_keys (ma_app (ma_pos o_X11_keys [733, 735, 24, 64] (by decide +kernel)) (ma_app in_X11_searchWaysTo ma_nil))
set_option maxHeartbeats 4000000 in
set_option maxRecDepth 100000 in
theorem c_X11_keys (l : Launch) (D : va_G) (cI cJ cZ cB : ClassId) (sz : Nat) (h0 : Nat) (h1 : Nat) (h2 : Nat) (v0 : Value) (v1 : Value) (v2 : Value) (v3 : Value) (v4 : Value) (v5 : Value) (v6 : Value) (v7 : Value) (v8 : Value) (v9 : Value) (v10 : Value) (v11 : Value) (v12 : Value) (v13 : Value) (v14 : Value) (p1 : Int32) (p2 : Int32) : Met l yX11_keys u_X11_keys ({ frames := 3, cells := 0, slots := 0, locals := 69 }) (va_Pc [.ref h0, .int p1, .int p2] (kPre D cI cJ cZ cB [(h0, .inr (10, [v0, v1, v2, v3, .ref h1, v4, v5, v6, v7, v8, v9, .int (-1), .int 0])), (h1, .inr (4, [v10, .ref h2])), (h2, .inr (8, [v11, v12, v13, .int 0, v14]))] sz)) (va_Qi (fun (r : Int32) (_ : Unit) => r = (-1)) (kB D (fun (u : Unit) => [(h0, .inr (10, [v0, v1, v2, v3, .ref h1, v4, v5, v6, v7, v8, v9, .int (-1), .int 0])), (h1, .inr (4, [v10, .ref h2])), (h2, .inr (8, [v11, v12, v13, .int 0, v14]))]) (va_A [(h0, .inr (10, [v0, v1, v2, v3, .ref h1, v4, v5, v6, v7, v8, v9, .int (-1), .int 0])), (h1, .inr (4, [v10, .ref h2])), (h2, .inr (8, [v11, v12, v13, .int 0, v14]))] sz)) (va_A [(h0, .inr (10, [v0, v1, v2, v3, .ref h1, v4, v5, v6, v7, v8, v9, .int (-1), .int 0])), (h1, .inr (4, [v10, .ref h2])), (h2, .inr (8, [v11, v12, v13, .int 0, v14]))] sz)) 0 0 (va_A [(h0, .inr (10, [v0, v1, v2, v3, .ref h1, v4, v5, v6, v7, v8, v9, .int (-1), .int 0])), (h1, .inr (4, [v10, .ref h2])), (h2, .inr (8, [v11, v12, v13, .int 0, v14]))] sz) := by
  refine Met.ofW (cc := cX11_keys) (maxL := 4) (ret := (some .int)) (by decide) rfl ?_
  intro p e s m args below meth c s₁ B hml hv
  obtain ⟨rfl, hsz, hP, hK, hN, hD0⟩ := hv
  have hx := B.exec
  have hb := B.bytes
  have hr := B.returns
  have hts := atoms_spec (ws := u_X11_keys) B.pre
  have hown : s.vm.findClass RX11 = some m.cls := findClass_of_methodNamed B.named
  have hlocks := B.notSynchronized
  subst hsz
  have hD := hD0.self (sz := s.heap.size)
  generalize hAe : va_A [(h0, .inr (10, [v0, v1, v2, v3, .ref h1, v4, v5, v6, v7, v8, v9, .int (-1), .int 0])), (h1, .inr (4, [v10, .ref h2])), (h2, .inr (8, [v11, v12, v13, .int 0, v14]))] s.heap.size = A at hD ⊢
  have hA : ∀ q : Nat, s.heap.size ≤ q → A q := fun q h => by rw [← hAe]; exact Or.inr h
  have hS : va_S A s.heap s.heap [] := va_S.rf
  have hP : va_P D vwCl [(h0, .inr (10, [v0, v1, v2, v3, .ref h1, v4, v5, v6, v7, v8, v9, .int (-1), .int 0])), (h1, .inr (4, [v10, .ref h2])), (h2, .inr (8, [v11, v12, v13, .int 0, v14]))] s.heap := hP
  have hl := lv_entry ([.ref h0, .int p1, .int p2]) (n := 4) (Nat.le_of_ble_eq_true rfl)
  rw [lg_entry_eq]
  generalize (lg_sl ([.ref h0, .int p1, .int p2]) ++ List.replicate (4 - (lg_sl ([.ref h0, .int p1, .int p2])).length) Slot.unset).toArray = ls at hl ⊢
  have hl : lv_has ls 4 [(0, .ref h0), (1, .int p1), (2, .int p2)] := hl
  obtain ⟨H, hHe⟩ : ∃ H, s.heap = H := ⟨_, rfl⟩
  have hP : va_P D vwCl [(h0, .inr (10, [v0, v1, v2, v3, .ref h1, v4, v5, v6, v7, v8, v9, .int (-1), .int 0])), (h1, .inr (4, [v10, .ref h2])), (h2, .inr (8, [v11, v12, v13, .int 0, v14]))] H := by rw [← hHe]; exact hP
  have hS : va_S A s.heap H [] := by rw [← hHe]; exact hS
  refine kn_heap hHe ?_
  refine lv_aload_n hx hb dX11_keys_0 rfl (lv_at hl 0 rfl) ?_
  refine lv_iload_n hx hb dX11_keys_1 rfl (lv_at hl 1 rfl) ?_
  refine lv_iload_n hx hb dX11_keys_2 rfl (lv_at hl 2 rfl) ?_
  have hPc := hP.sub (ws' := [(h0, .inr (10, [v0, v1, v2, v3, .ref h1, v4, v5, v6, v7, v8, v9, .int (-1), .int 0])), (h1, .inr (4, [v10, .ref h2])), (h2, .inr (8, [v11, v12, v13, .int 0, v14]))]) [0, 1, 2] rfl
  have hDc := hD.sub (ws' := [(h0, .inr (10, [v0, v1, v2, v3, .ref h1, v4, v5, v6, v7, v8, v9, .int (-1), .int 0])), (h1, .inr (4, [v10, .ref h2])), (h2, .inr (8, [v11, v12, v13, .int 0, v14]))]) [0, 1, 2] (by decide) rfl
  refine kn_calli (wr := []) (cells' := 0) (slots' := 0) (va_runV (As := [.int p1, .int p2]) (rest := []) ⟨hx, hb, hml, hown, hts⟩ (c_X11_searchWaysTo l D cI cJ cZ cB H.size h0 h1 h2 v0 v1 v2 v3 v4 v5 v6 v7 v8 v9 v10 v11 v12 v13 v14 p1 p2) (cwV 2 hts (goodIn_app (goodIn_of _ (by decide +kernel)) gs_X11_keys__X11_searchWaysTo) rfl rfl rfl (by decide +kernel) ⟨(Nat.le_of_ble_eq_true rfl), (Nat.le_of_ble_eq_true rfl)⟩) (kp_V 0 10 rfl rfl hPc hK hN hDc) rfl rfl hl.1 rfl (lv_room (Nat.le_of_ble_eq_true rfl)) dX11_keys_3 ⟨(Nat.le_of_ble_eq_true rfl), (Nat.le_of_ble_eq_true rfl)⟩) hS hA hP hD [0, 1, 2] [] rfl rfl (by decide) (by decide) (Nat.le_of_ble_eq_true rfl) (Nat.le_of_ble_eq_true rfl) (fun r_674 u H locs hw_675 hP hD hS => ?_)
  have hP : va_P D vwCl [(h0, .inr (10, [v0, v1, v2, v3, .ref h1, v4, v5, v6, v7, v8, v9, .int (-1), .int 0])), (h1, .inr (4, [v10, .ref h2])), (h2, .inr (8, [v11, v12, v13, .int 0, v14]))] H := hP
  have hD : va_D A [(h0, .inr (10, [v0, v1, v2, v3, .ref h1, v4, v5, v6, v7, v8, v9, .int (-1), .int 0])), (h1, .inr (4, [v10, .ref h2])), (h2, .inr (8, [v11, v12, v13, .int 0, v14]))] := hD
  subst hw_675
  refine lv_istore_n (lv' := [(3, .int (-1)), (0, .ref h0), (1, .int p1), (2, .int p2)]) hx hb dX11_keys_6 rfl hl (by decide) rfl (fun ls hl => ?_)
  refine lv_iload_n hx hb dX11_keys_7 rfl (lv_at hl 0 rfl) ?_
  refine lv_iconst (v := (-1)) hx hb dX11_keys_8 (by decide) ?_
  refine lv_icmp_ne (tgt := 16) hx hb dX11_keys_9 (by decide) (fun c_676 => ?_) (fun c_676 => ?_)
  · skip
    exact absurd rfl c_676
  · skip
    refine lv_iconst (v := (-1)) hx hb dX11_keys_12 (by decide) ?_
    refine lv_goto (tgt := 25) hx hb dX11_keys_13 (by decide) ?_
    have hP9 := hP.sub (ws' := [(h0, .inr (10, [v0, v1, v2, v3, .ref h1, v4, v5, v6, v7, v8, v9, .int (-1), .int 0])), (h1, .inr (4, [v10, .ref h2])), (h2, .inr (8, [v11, v12, v13, .int 0, v14]))]) [0, 1, 2] rfl
    have hD9 := hD.sub (ws' := [(h0, .inr (10, [v0, v1, v2, v3, .ref h1, v4, v5, v6, v7, v8, v9, .int (-1), .int 0])), (h1, .inr (4, [v10, .ref h2])), (h2, .inr (8, [v11, v12, v13, .int 0, v14]))]) [0, 1, 2] (by decide) rfl
    exact W.iret (v := (-1)) hx hb hr (fun t ht hW => ⟨⟨(-1), (), rfl, rfl, by rw [ht]; exact hP9, hD9⟩, hS.F ht⟩) hS.2.2 dX11_keys_25
def o_X12_keys : List Cond := [.fieldLink RX12 116 "EarTableModel" "placeLine" "I"]
def u_X12_keys : List Cond := .code yX12_keys cX12_keys 3 (some .int) :: (o_X12_keys ++ (wsX120 ++ ([] : List Cond)))
theorem inw_X12_keys_X12 : ∀ w ∈ wsX120, w ∈ u_X12_keys := fun w h => List.mem_cons_of_mem _ (List.mem_append_right _ (List.mem_append_left _ h))
set_option maxRecDepth 20000 in
theorem good_X12_keys : u_X12_keys.all goodWord = true := by decide +kernel
set_option maxRecDepth 20000 in
theorem in_X12_keys : ∀ w ∈ u_X12_keys, w ∈ lw_tbl := ma_cons inc_X12_keys (ma_app (ma_pos o_X12_keys [1003] (by decide +kernel)) (ma_app inb_X12 ma_nil))
set_option maxHeartbeats 4000000 in
set_option maxRecDepth 100000 in
theorem c_X12_keys (l : Launch) (D : va_G) (cI cJ cZ cB : ClassId) (sz : Nat) (h0 : Nat) (v0 : Value) (v1 : Value) (v2 : Value) (v3 : Value) (v4 : Value) (v5 : Value) (v6 : Value) (v7 : Value) (v8 : Value) (v9 : Value) (v10 : Value) (v11 : Value) (v12 : Value) (v13 : Value) (v14 : Value) (v15 : Value) (v16 : Value) (v17 : Value) (v18 : Value) (v19 : Value) (v20 : Value) (v21 : Value) (v22 : Value) (v23 : Value) (v24 : Value) (v25 : Value) (v26 : Value) (v27 : Value) (v28 : Value) (v29 : Value) (v30 : Value) (v31 : Value) (v32 : Value) (v33 : Value) (v34 : Value) (v35 : Value) (v36 : Value) (v37 : Value) (v38 : Value) (v39 : Value) (v40 : Value) (v41 : Value) (v42 : Value) (v43 : Value) (v44 : Value) (v45 : Value) (v46 : Value) (v47 : Value) (v48 : Value) (p1 : Int32) (p2 : Int32) : Met l yX12_keys u_X12_keys ({ frames := 0, cells := 0, slots := 0, locals := 0 }) (va_Pc [.ref h0, .int p1, .int p2] (kPre D cI cJ cZ cB [(h0, .inr (11, [v0, v1, v2, v3, v4, v5, v6, v7, v8, v9, v10, v11, v12, v13, v14, v15, v16, v17, v18, v19, v20, v21, v22, v23, v24, v25, v26, .int (-1), v27, v28, v29, v30, v31, v32, v33, v34, v35, v36, v37, v38, v39, v40, v41, v42, v43, v44, v45, v46, v47, v48]))] sz)) (va_Qi (fun (r : Int32) (_ : Unit) => r = (-1)) (kB D (fun (u : Unit) => [(h0, .inr (11, [v0, v1, v2, v3, v4, v5, v6, v7, v8, v9, v10, v11, v12, v13, v14, v15, v16, v17, v18, v19, v20, v21, v22, v23, v24, v25, v26, .int (-1), v27, v28, v29, v30, v31, v32, v33, v34, v35, v36, v37, v38, v39, v40, v41, v42, v43, v44, v45, v46, v47, v48]))]) (va_A [(h0, .inr (11, [v0, v1, v2, v3, v4, v5, v6, v7, v8, v9, v10, v11, v12, v13, v14, v15, v16, v17, v18, v19, v20, v21, v22, v23, v24, v25, v26, .int (-1), v27, v28, v29, v30, v31, v32, v33, v34, v35, v36, v37, v38, v39, v40, v41, v42, v43, v44, v45, v46, v47, v48]))] sz)) (va_A [(h0, .inr (11, [v0, v1, v2, v3, v4, v5, v6, v7, v8, v9, v10, v11, v12, v13, v14, v15, v16, v17, v18, v19, v20, v21, v22, v23, v24, v25, v26, .int (-1), v27, v28, v29, v30, v31, v32, v33, v34, v35, v36, v37, v38, v39, v40, v41, v42, v43, v44, v45, v46, v47, v48]))] sz)) 0 0 (va_A [(h0, .inr (11, [v0, v1, v2, v3, v4, v5, v6, v7, v8, v9, v10, v11, v12, v13, v14, v15, v16, v17, v18, v19, v20, v21, v22, v23, v24, v25, v26, .int (-1), v27, v28, v29, v30, v31, v32, v33, v34, v35, v36, v37, v38, v39, v40, v41, v42, v43, v44, v45, v46, v47, v48]))] sz) := by
  refine Met.ofW (cc := cX12_keys) (maxL := 3) (ret := (some .int)) (by decide) rfl ?_
  intro p e s m args below meth c s₁ B hml hv
  obtain ⟨rfl, hsz, hP, hK, hN, hD0⟩ := hv
  have hx := B.exec
  have hb := B.bytes
  have hr := B.returns
  have hts := atoms_spec (ws := u_X12_keys) B.pre
  have hown : s.vm.findClass RX12 = some m.cls := findClass_of_methodNamed B.named
  have hlocks := B.notSynchronized
  subst hsz
  have hD := hD0.self (sz := s.heap.size)
  generalize hAe : va_A [(h0, .inr (11, [v0, v1, v2, v3, v4, v5, v6, v7, v8, v9, v10, v11, v12, v13, v14, v15, v16, v17, v18, v19, v20, v21, v22, v23, v24, v25, v26, .int (-1), v27, v28, v29, v30, v31, v32, v33, v34, v35, v36, v37, v38, v39, v40, v41, v42, v43, v44, v45, v46, v47, v48]))] s.heap.size = A at hD ⊢
  have hA : ∀ q : Nat, s.heap.size ≤ q → A q := fun q h => by rw [← hAe]; exact Or.inr h
  have hS : va_S A s.heap s.heap [] := va_S.rf
  have hP : va_P D vwCl [(h0, .inr (11, [v0, v1, v2, v3, v4, v5, v6, v7, v8, v9, v10, v11, v12, v13, v14, v15, v16, v17, v18, v19, v20, v21, v22, v23, v24, v25, v26, .int (-1), v27, v28, v29, v30, v31, v32, v33, v34, v35, v36, v37, v38, v39, v40, v41, v42, v43, v44, v45, v46, v47, v48]))] s.heap := hP
  have hl := lv_entry ([.ref h0, .int p1, .int p2]) (n := 3) (Nat.le_of_ble_eq_true rfl)
  rw [lg_entry_eq]
  generalize (lg_sl ([.ref h0, .int p1, .int p2]) ++ List.replicate (3 - (lg_sl ([.ref h0, .int p1, .int p2])).length) Slot.unset).toArray = ls at hl ⊢
  have hl : lv_has ls 3 [(0, .ref h0), (1, .int p1), (2, .int p2)] := hl
  obtain ⟨H, hHe⟩ : ∃ H, s.heap = H := ⟨_, rfl⟩
  have hP : va_P D vwCl [(h0, .inr (11, [v0, v1, v2, v3, v4, v5, v6, v7, v8, v9, v10, v11, v12, v13, v14, v15, v16, v17, v18, v19, v20, v21, v22, v23, v24, v25, v26, .int (-1), v27, v28, v29, v30, v31, v32, v33, v34, v35, v36, v37, v38, v39, v40, v41, v42, v43, v44, v45, v46, v47, v48]))] H := by rw [← hHe]; exact hP
  have hS : va_S A s.heap H [] := by rw [← hHe]; exact hS
  refine kn_heap hHe ?_
  refine lv_aload_n hx hb dX12_keys_0 rfl (lv_at hl 0 rfl) ?_
  refine va_get (D := D) (ci := 11) (v := .int (-1)) (C := RX12) (T := TX12) (N := 50) hx hb hts inw_X12_keys_X12 hown hK hP 0 rfl rfl 27 (by decide) (hts (.fieldLink RX12 116 "EarTableModel" "placeLine" "I") (by decide +kernel)) (fun _ h9 => h9) rfl dX12_keys_1 ?_
  refine lv_if_lt (tgt := 31) hx hb dX12_keys_4 (by decide) (fun c_679 => ?_) (fun c_679 => ?_)
  · skip
    refine lv_iconst (v := (-1)) hx hb dX12_keys_31 (by decide) ?_
    have hP9 := hP.sub (ws' := [(h0, .inr (11, [v0, v1, v2, v3, v4, v5, v6, v7, v8, v9, v10, v11, v12, v13, v14, v15, v16, v17, v18, v19, v20, v21, v22, v23, v24, v25, v26, .int (-1), v27, v28, v29, v30, v31, v32, v33, v34, v35, v36, v37, v38, v39, v40, v41, v42, v43, v44, v45, v46, v47, v48]))]) [0] rfl
    have hD9 := hD.sub (ws' := [(h0, .inr (11, [v0, v1, v2, v3, v4, v5, v6, v7, v8, v9, v10, v11, v12, v13, v14, v15, v16, v17, v18, v19, v20, v21, v22, v23, v24, v25, v26, .int (-1), v27, v28, v29, v30, v31, v32, v33, v34, v35, v36, v37, v38, v39, v40, v41, v42, v43, v44, v45, v46, v47, v48]))]) [0] (by decide) rfl
    exact W.iret (v := (-1)) hx hb hr (fun t ht hW => ⟨⟨(-1), (), rfl, rfl, by rw [ht]; exact hP9, hD9⟩, hS.F ht⟩) hS.2.2 dX12_keys_32
  · skip
    exact absurd (by decide) c_679
def o_X11_first : List Cond := [.methodLink RX11 208 yX11_searchWaysTo, .instanceMethod yX11_searchWaysTo, .selects RX11 yX11_searchWaysTo yX11_searchWaysTo, .initialized RX11]
def u_X11_first : List Cond := .code yX11_first cX11_first 4 (some .int) :: (o_X11_first ++ (u_X11_searchWaysTo ++ ([] : List Cond)))
theorem gs_X11_first__X11_searchWaysTo : GoodIn u_X11_first u_X11_searchWaysTo := goodIn_sub (fun w h => List.mem_cons_of_mem _ (List.mem_append_right _ (List.mem_append_left _ h))) good_X11_searchWaysTo
set_option maxRecDepth 20000 in
theorem good_X11_first : u_X11_first.all goodWord = true := by decide +kernel
set_option maxRecDepth 20000 in
theorem in_X11_first : ∀ w ∈ u_X11_first, w ∈ lw_tbl := ma_cons inc_X11_first (ma_app (ma_pos o_X11_first [733, 735, 24, 64] (by decide +kernel)) (ma_app in_X11_searchWaysTo ma_nil))
set_option maxHeartbeats 4000000 in
set_option maxRecDepth 100000 in
theorem c_X11_first (l : Launch) (D : va_G) (cI cJ cZ cB : ClassId) (sz : Nat) (h0 : Nat) (h1 : Nat) (h2 : Nat) (v0 : Value) (v1 : Value) (v2 : Value) (v3 : Value) (v4 : Value) (v5 : Value) (v6 : Value) (v7 : Value) (v8 : Value) (v9 : Value) (v10 : Value) (v11 : Value) (v12 : Value) (v13 : Value) (v14 : Value) (p1 : Int32) (p2 : Int32) : Met l yX11_first u_X11_first ({ frames := 3, cells := 0, slots := 0, locals := 69 }) (va_Pc [.ref h0, .int p1, .int p2] (kPre D cI cJ cZ cB [(h0, .inr (10, [v0, v1, v2, v3, .ref h1, v4, v5, v6, v7, v8, v9, .int (-1), .int 0])), (h1, .inr (4, [v10, .ref h2])), (h2, .inr (8, [v11, v12, v13, .int 0, v14]))] sz)) (va_Qi (fun (r : Int32) (_ : Unit) => r = (-1)) (kB D (fun (u : Unit) => [(h0, .inr (10, [v0, v1, v2, v3, .ref h1, v4, v5, v6, v7, v8, v9, .int (-1), .int 0])), (h1, .inr (4, [v10, .ref h2])), (h2, .inr (8, [v11, v12, v13, .int 0, v14]))]) (va_A [(h0, .inr (10, [v0, v1, v2, v3, .ref h1, v4, v5, v6, v7, v8, v9, .int (-1), .int 0])), (h1, .inr (4, [v10, .ref h2])), (h2, .inr (8, [v11, v12, v13, .int 0, v14]))] sz)) (va_A [(h0, .inr (10, [v0, v1, v2, v3, .ref h1, v4, v5, v6, v7, v8, v9, .int (-1), .int 0])), (h1, .inr (4, [v10, .ref h2])), (h2, .inr (8, [v11, v12, v13, .int 0, v14]))] sz)) 0 0 (va_A [(h0, .inr (10, [v0, v1, v2, v3, .ref h1, v4, v5, v6, v7, v8, v9, .int (-1), .int 0])), (h1, .inr (4, [v10, .ref h2])), (h2, .inr (8, [v11, v12, v13, .int 0, v14]))] sz) := by
  refine Met.ofW (cc := cX11_first) (maxL := 4) (ret := (some .int)) (by decide) rfl ?_
  intro p e s m args below meth c s₁ B hml hv
  obtain ⟨rfl, hsz, hP, hK, hN, hD0⟩ := hv
  have hx := B.exec
  have hb := B.bytes
  have hr := B.returns
  have hts := atoms_spec (ws := u_X11_first) B.pre
  have hown : s.vm.findClass RX11 = some m.cls := findClass_of_methodNamed B.named
  have hlocks := B.notSynchronized
  subst hsz
  have hD := hD0.self (sz := s.heap.size)
  generalize hAe : va_A [(h0, .inr (10, [v0, v1, v2, v3, .ref h1, v4, v5, v6, v7, v8, v9, .int (-1), .int 0])), (h1, .inr (4, [v10, .ref h2])), (h2, .inr (8, [v11, v12, v13, .int 0, v14]))] s.heap.size = A at hD ⊢
  have hA : ∀ q : Nat, s.heap.size ≤ q → A q := fun q h => by rw [← hAe]; exact Or.inr h
  have hS : va_S A s.heap s.heap [] := va_S.rf
  have hP : va_P D vwCl [(h0, .inr (10, [v0, v1, v2, v3, .ref h1, v4, v5, v6, v7, v8, v9, .int (-1), .int 0])), (h1, .inr (4, [v10, .ref h2])), (h2, .inr (8, [v11, v12, v13, .int 0, v14]))] s.heap := hP
  have hl := lv_entry ([.ref h0, .int p1, .int p2]) (n := 4) (Nat.le_of_ble_eq_true rfl)
  rw [lg_entry_eq]
  generalize (lg_sl ([.ref h0, .int p1, .int p2]) ++ List.replicate (4 - (lg_sl ([.ref h0, .int p1, .int p2])).length) Slot.unset).toArray = ls at hl ⊢
  have hl : lv_has ls 4 [(0, .ref h0), (1, .int p1), (2, .int p2)] := hl
  obtain ⟨H, hHe⟩ : ∃ H, s.heap = H := ⟨_, rfl⟩
  have hP : va_P D vwCl [(h0, .inr (10, [v0, v1, v2, v3, .ref h1, v4, v5, v6, v7, v8, v9, .int (-1), .int 0])), (h1, .inr (4, [v10, .ref h2])), (h2, .inr (8, [v11, v12, v13, .int 0, v14]))] H := by rw [← hHe]; exact hP
  have hS : va_S A s.heap H [] := by rw [← hHe]; exact hS
  refine kn_heap hHe ?_
  refine lv_aload_n hx hb dX11_first_0 rfl (lv_at hl 0 rfl) ?_
  refine lv_iload_n hx hb dX11_first_1 rfl (lv_at hl 1 rfl) ?_
  refine lv_iload_n hx hb dX11_first_2 rfl (lv_at hl 2 rfl) ?_
  have hPc := hP.sub (ws' := [(h0, .inr (10, [v0, v1, v2, v3, .ref h1, v4, v5, v6, v7, v8, v9, .int (-1), .int 0])), (h1, .inr (4, [v10, .ref h2])), (h2, .inr (8, [v11, v12, v13, .int 0, v14]))]) [0, 1, 2] rfl
  have hDc := hD.sub (ws' := [(h0, .inr (10, [v0, v1, v2, v3, .ref h1, v4, v5, v6, v7, v8, v9, .int (-1), .int 0])), (h1, .inr (4, [v10, .ref h2])), (h2, .inr (8, [v11, v12, v13, .int 0, v14]))]) [0, 1, 2] (by decide) rfl
  refine kn_calli (wr := []) (cells' := 0) (slots' := 0) (va_runV (As := [.int p1, .int p2]) (rest := []) ⟨hx, hb, hml, hown, hts⟩ (c_X11_searchWaysTo l D cI cJ cZ cB H.size h0 h1 h2 v0 v1 v2 v3 v4 v5 v6 v7 v8 v9 v10 v11 v12 v13 v14 p1 p2) (cwV 2 hts (goodIn_app (goodIn_of _ (by decide +kernel)) gs_X11_first__X11_searchWaysTo) rfl rfl rfl (by decide +kernel) ⟨(Nat.le_of_ble_eq_true rfl), (Nat.le_of_ble_eq_true rfl)⟩) (kp_V 0 10 rfl rfl hPc hK hN hDc) rfl rfl hl.1 rfl (lv_room (Nat.le_of_ble_eq_true rfl)) dX11_first_3 ⟨(Nat.le_of_ble_eq_true rfl), (Nat.le_of_ble_eq_true rfl)⟩) hS hA hP hD [0, 1, 2] [] rfl rfl (by decide) (by decide) (Nat.le_of_ble_eq_true rfl) (Nat.le_of_ble_eq_true rfl) (fun r_683 u H locs hw_684 hP hD hS => ?_)
  have hP : va_P D vwCl [(h0, .inr (10, [v0, v1, v2, v3, .ref h1, v4, v5, v6, v7, v8, v9, .int (-1), .int 0])), (h1, .inr (4, [v10, .ref h2])), (h2, .inr (8, [v11, v12, v13, .int 0, v14]))] H := hP
  have hD : va_D A [(h0, .inr (10, [v0, v1, v2, v3, .ref h1, v4, v5, v6, v7, v8, v9, .int (-1), .int 0])), (h1, .inr (4, [v10, .ref h2])), (h2, .inr (8, [v11, v12, v13, .int 0, v14]))] := hD
  subst hw_684
  refine lv_istore_n (lv' := [(3, .int (-1)), (0, .ref h0), (1, .int p1), (2, .int p2)]) hx hb dX11_first_6 rfl hl (by decide) rfl (fun ls hl => ?_)
  refine lv_iload_n hx hb dX11_first_7 rfl (lv_at hl 0 rfl) ?_
  refine lv_iconst (v := (-1)) hx hb dX11_first_8 (by decide) ?_
  refine lv_icmp_ne (tgt := 16) hx hb dX11_first_9 (by decide) (fun c_685 => ?_) (fun c_685 => ?_)
  · skip
    exact absurd rfl c_685
  · skip
    refine lv_iconst (v := (-1)) hx hb dX11_first_12 (by decide) ?_
    refine lv_goto (tgt := 25) hx hb dX11_first_13 (by decide) ?_
    have hP9 := hP.sub (ws' := [(h0, .inr (10, [v0, v1, v2, v3, .ref h1, v4, v5, v6, v7, v8, v9, .int (-1), .int 0])), (h1, .inr (4, [v10, .ref h2])), (h2, .inr (8, [v11, v12, v13, .int 0, v14]))]) [0, 1, 2] rfl
    have hD9 := hD.sub (ws' := [(h0, .inr (10, [v0, v1, v2, v3, .ref h1, v4, v5, v6, v7, v8, v9, .int (-1), .int 0])), (h1, .inr (4, [v10, .ref h2])), (h2, .inr (8, [v11, v12, v13, .int 0, v14]))]) [0, 1, 2] (by decide) rfl
    exact W.iret (v := (-1)) hx hb hr (fun t ht hW => ⟨⟨(-1), (), rfl, rfl, by rw [ht]; exact hP9, hD9⟩, hS.F ht⟩) hS.2.2 dX11_first_25
