def o_X3_isDigit : List Cond := []
def u_X3_isDigit : List Cond := .code yX3_isDigit cX3_isDigit 1 (some .boolean) :: (o_X3_isDigit ++ ([] : List Cond))
set_option maxRecDepth 20000 in
theorem good_X3_isDigit : u_X3_isDigit.all goodWord = true := by decide +kernel
set_option maxRecDepth 20000 in
theorem in_X3_isDigit : ∀ w ∈ u_X3_isDigit, w ∈ lw_tbl := ma_cons inc_X3_isDigit (ma_app (ma_pos o_X3_isDigit [] (by decide +kernel)) ma_nil)
set_option maxHeartbeats 4000000 in
set_option maxRecDepth 100000 in
theorem c_X3_isDigit (l : Launch) (D : va_G) (cI cJ cZ cB : ClassId) (sz : Nat) : Met l yX3_isDigit u_X3_isDigit ({ frames := 0, cells := 0, slots := 0, locals := 0 }) (va_Pc [.int (-1)] (kPre D cI cJ cZ cB [] sz)) (va_Qi (fun (r : Int32) (_ : Unit) => r = 0) (kB D (fun (u : Unit) => []) (va_A [] sz)) (va_A [] sz)) 0 0 (va_A [] sz) := by
  refine Met.ofW (cc := cX3_isDigit) (maxL := 1) (ret := (some .boolean)) (by decide) rfl ?_
  intro p e s m args below meth c s₁ B hml hv
  obtain ⟨rfl, hsz, hP, hK, hN, hD0⟩ := hv
  have hx := B.exec
  have hb := B.bytes
  have hr := B.returns
  have hts := atoms_spec (ws := u_X3_isDigit) B.pre
  have hown : s.vm.findClass RX3 = some m.cls := findClass_of_methodNamed B.named
  have hlocks := B.notSynchronized
  subst hsz
  have hD := hD0.self (sz := s.heap.size)
  generalize hAe : va_A [] s.heap.size = A at hD ⊢
  have hA : ∀ q : Nat, s.heap.size ≤ q → A q := fun q h => by rw [← hAe]; exact Or.inr h
  have hS : va_S A s.heap s.heap [] := va_S.rf
  have hP : va_P D vwCl [] s.heap := hP
  have hl := lv_entry ([.int (-1)]) (n := 1) (Nat.le_of_ble_eq_true rfl)
  rw [lg_entry_eq]
  generalize (lg_sl ([.int (-1)]) ++ List.replicate (1 - (lg_sl ([.int (-1)])).length) Slot.unset).toArray = ls at hl ⊢
  have hl : lv_has ls 1 [(0, .int (-1))] := hl
  obtain ⟨H, hHe⟩ : ∃ H, s.heap = H := ⟨_, rfl⟩
  have hP : va_P D vwCl [] H := by rw [← hHe]; exact hP
  have hS : va_S A s.heap H [] := by rw [← hHe]; exact hS
  refine kn_heap hHe ?_
  refine lv_iload_n hx hb dX3_isDigit_0 rfl (lv_at hl 0 rfl) ?_
  refine lv_bipush (v := 48) hx hb dX3_isDigit_1 (by decide) ?_
  refine lv_icmp_lt (tgt := 16) hx hb dX3_isDigit_3 (by decide) (fun c_433 => ?_) (fun c_433 => ?_)
  · skip
    refine lv_iconst (v := 0) hx hb dX3_isDigit_16 (by decide) ?_
    have hP9 := hP.sub (ws' := []) [] rfl
    have hD9 := hD.sub (ws' := []) [] (by decide) rfl
    exact W.zret (v := 0) hx hb hr rfl (fun t ht hW => ⟨⟨0, (), rfl, rfl, by rw [ht]; exact hP9, hD9⟩, hS.F ht⟩) hS.2.2 dX3_isDigit_17
  · skip
    exact absurd (by decide) c_433
def o_X3_kindOfSign : List Cond := []
def u_X3_kindOfSign : List Cond := .code yX3_kindOfSign cX3_kindOfSign 1 (some .int) :: (o_X3_kindOfSign ++ ([] : List Cond))
set_option maxRecDepth 20000 in
theorem good_X3_kindOfSign : u_X3_kindOfSign.all goodWord = true := by decide +kernel
set_option maxRecDepth 20000 in
theorem in_X3_kindOfSign : ∀ w ∈ u_X3_kindOfSign, w ∈ lw_tbl := ma_cons inc_X3_kindOfSign (ma_app (ma_pos o_X3_kindOfSign [] (by decide +kernel)) ma_nil)
set_option maxHeartbeats 4000000 in
set_option maxRecDepth 100000 in
theorem c_X3_kindOfSign (l : Launch) (D : va_G) (cI cJ cZ cB : ClassId) (sz : Nat) : Met l yX3_kindOfSign u_X3_kindOfSign ({ frames := 0, cells := 0, slots := 0, locals := 0 }) (va_Pc [.int (-1)] (kPre D cI cJ cZ cB [] sz)) (va_Qi (fun (r : Int32) (_ : Unit) => r = 0) (kB D (fun (u : Unit) => []) (va_A [] sz)) (va_A [] sz)) 0 0 (va_A [] sz) := by
  refine Met.ofW (cc := cX3_kindOfSign) (maxL := 1) (ret := (some .int)) (by decide) rfl ?_
  intro p e s m args below meth c s₁ B hml hv
  obtain ⟨rfl, hsz, hP, hK, hN, hD0⟩ := hv
  have hx := B.exec
  have hb := B.bytes
  have hr := B.returns
  have hts := atoms_spec (ws := u_X3_kindOfSign) B.pre
  have hown : s.vm.findClass RX3 = some m.cls := findClass_of_methodNamed B.named
  have hlocks := B.notSynchronized
  subst hsz
  have hD := hD0.self (sz := s.heap.size)
  generalize hAe : va_A [] s.heap.size = A at hD ⊢
  have hA : ∀ q : Nat, s.heap.size ≤ q → A q := fun q h => by rw [← hAe]; exact Or.inr h
  have hS : va_S A s.heap s.heap [] := va_S.rf
  have hP : va_P D vwCl [] s.heap := hP
  have hl := lv_entry ([.int (-1)]) (n := 1) (Nat.le_of_ble_eq_true rfl)
  rw [lg_entry_eq]
  generalize (lg_sl ([.int (-1)]) ++ List.replicate (1 - (lg_sl ([.int (-1)])).length) Slot.unset).toArray = ls at hl ⊢
  have hl : lv_has ls 1 [(0, .int (-1))] := hl
  obtain ⟨H, hHe⟩ : ∃ H, s.heap = H := ⟨_, rfl⟩
  have hP : va_P D vwCl [] H := by rw [← hHe]; exact hP
  have hS : va_S A s.heap H [] := by rw [← hHe]; exact hS
  refine kn_heap hHe ?_
  refine lv_iload_n hx hb dX3_kindOfSign_0 rfl (lv_at hl 0 rfl) ?_
  refine lv_lookup (off := 43) (tgt := 44) hx hb dX3_kindOfSign_1 (by decide) (by decide) (by decide) ?_
  refine lv_iconst (v := 0) hx hb dX3_kindOfSign_44 (by decide) ?_
  have hP9 := hP.sub (ws' := []) [] rfl
  have hD9 := hD.sub (ws' := []) [] (by decide) rfl
  exact W.iret (v := 0) hx hb hr (fun t ht hW => ⟨⟨0, (), rfl, rfl, by rw [ht]; exact hP9, hD9⟩, hS.F ht⟩) hS.2.2 dX3_kindOfSign_45
def o_X3_advance : List Cond := [.fieldLink RX3 15 "EarTable$Scanner" "behind" "I", .fieldLink RX3 22 "EarTable$Scanner" "place" "I", .fieldLink RX3 9 "EarTable$Scanner" "tape" "LEarTable$Tape;", .methodLink RX3 30 yX7_byteAt, .instanceMethod yX7_byteAt, .selects RX7 yX7_byteAt yX7_byteAt, .initialized RX7, .fieldLink RX3 38 "EarTable$Scanner" "content" "J", .methodLink RX3 42 yX3_isLetter, .static yX3_isLetter, .initialized RX3, .methodLink RX3 48 yX3_isDigit, .static yX3_isDigit, .methodLink RX3 55 yX3_kindOfSign, .static yX3_kindOfSign, .fieldLink RX3 58 "EarTable$Scanner" "kind" "I"]
def u_X3_advance : List Cond := .code yX3_advance cX3_advance 2 none :: (o_X3_advance ++ (u_X7_byteAt ++ (u_X3_isLetter ++ (u_X3_isDigit ++ (u_X3_kindOfSign ++ (wsX30 ++ (wsX70 ++ ([] : List Cond))))))))
theorem gs_X3_advance__X7_byteAt : GoodIn u_X3_advance u_X7_byteAt := goodIn_sub (fun w h => List.mem_cons_of_mem _ (List.mem_append_right _ (List.mem_append_left _ h))) good_X7_byteAt
theorem gs_X3_advance__X3_isLetter : GoodIn u_X3_advance u_X3_isLetter := goodIn_sub (fun w h => List.mem_cons_of_mem _ (List.mem_append_right _ (List.mem_append_right _ (List.mem_append_left _ h)))) good_X3_isLetter
theorem gs_X3_advance__X3_isDigit : GoodIn u_X3_advance u_X3_isDigit := goodIn_sub (fun w h => List.mem_cons_of_mem _ (List.mem_append_right _ (List.mem_append_right _ (List.mem_append_right _ (List.mem_append_left _ h))))) good_X3_isDigit
theorem gs_X3_advance__X3_kindOfSign : GoodIn u_X3_advance u_X3_kindOfSign := goodIn_sub (fun w h => List.mem_cons_of_mem _ (List.mem_append_right _ (List.mem_append_right _ (List.mem_append_right _ (List.mem_append_right _ (List.mem_append_left _ h)))))) good_X3_kindOfSign
theorem inw_X3_advance_X3 : ∀ w ∈ wsX30, w ∈ u_X3_advance := fun w h => List.mem_cons_of_mem _ (List.mem_append_right _ (List.mem_append_right _ (List.mem_append_right _ (List.mem_append_right _ (List.mem_append_right _ (List.mem_append_left _ h))))))
theorem inw_X3_advance_X7 : ∀ w ∈ wsX70, w ∈ u_X3_advance := fun w h => List.mem_cons_of_mem _ (List.mem_append_right _ (List.mem_append_right _ (List.mem_append_right _ (List.mem_append_right _ (List.mem_append_right _ (List.mem_append_right _ (List.mem_append_left _ h)))))))
set_option maxRecDepth 20000 in
theorem good_X3_advance : u_X3_advance.all goodWord = true := by decide +kernel
set_option maxRecDepth 20000 in
theorem in_X3_advance : ∀ w ∈ u_X3_advance, w ∈ lw_tbl := ma_cons inc_X3_advance (ma_app (ma_pos o_X3_advance [121, 119, 116, 452, 453, 454, 65, 122, 459, 460, 67, 476, 477, 484, 485, 118] (by decide +kernel)) (ma_app in_X7_byteAt (ma_app in_X3_isLetter (ma_app in_X3_isDigit (ma_app in_X3_kindOfSign (ma_app inb_X3 (ma_app inb_X7 ma_nil)))))))
set_option maxHeartbeats 4000000 in
set_option maxRecDepth 100000 in
theorem c_X3_advance (l : Launch) (D : va_G) (cI cJ cZ cB : ClassId) (sz : Nat) (h0 : Nat) (h1 : Nat) (v0 : Value) (v1 : Value) (v2 : Value) (v3 : Value) : Met l yX3_advance u_X3_advance ({ frames := 1, cells := 0, slots := 0, locals := 21 }) (va_Pc [.ref h0] (kPre D cI cJ cZ cB [(h0, .inr (2, [.ref h1, v0, v1, .int 0, v2])), (h1, .inr (6, [v3, .int 0]))] sz)) (va_Qv (fun (_ : Unit) => True) (kB D (fun (u : Unit) => [(h0, .inr (2, [.ref h1, .int 0, .int 0, .int 0, .long 0])), (h1, .inr (6, [v3, .int 0]))]) (va_A [(h0, .inr (2, [.ref h1, v0, v1, .int 0, v2])), (h1, .inr (6, [v3, .int 0]))] sz)) (va_A [(h0, .inr (2, [.ref h1, v0, v1, .int 0, v2])), (h1, .inr (6, [v3, .int 0]))] sz)) 0 0 (va_A [(h0, .inr (2, [.ref h1, v0, v1, .int 0, v2])), (h1, .inr (6, [v3, .int 0]))] sz) := by
  refine Met.ofW (cc := cX3_advance) (maxL := 2) (ret := none) (by decide) rfl ?_
  intro p e s m args below meth c s₁ B hml hv
  obtain ⟨rfl, hsz, hP, hK, hN, hD0⟩ := hv
  have hx := B.exec
  have hb := B.bytes
  have hr := B.returns
  have hts := atoms_spec (ws := u_X3_advance) B.pre
  have hown : s.vm.findClass RX3 = some m.cls := findClass_of_methodNamed B.named
  have hlocks := B.notSynchronized
  subst hsz
  have hD := hD0.self (sz := s.heap.size)
  generalize hAe : va_A [(h0, .inr (2, [.ref h1, v0, v1, .int 0, v2])), (h1, .inr (6, [v3, .int 0]))] s.heap.size = A at hD ⊢
  have hA : ∀ q : Nat, s.heap.size ≤ q → A q := fun q h => by rw [← hAe]; exact Or.inr h
  have hS : va_S A s.heap s.heap [] := va_S.rf
  have hP : va_P D vwCl [(h0, .inr (2, [.ref h1, v0, v1, .int 0, v2])), (h1, .inr (6, [v3, .int 0]))] s.heap := hP
  have hl := lv_entry ([.ref h0]) (n := 2) (Nat.le_of_ble_eq_true rfl)
  rw [lg_entry_eq]
  generalize (lg_sl ([.ref h0]) ++ List.replicate (2 - (lg_sl ([.ref h0])).length) Slot.unset).toArray = ls at hl ⊢
  have hl : lv_has ls 2 [(0, .ref h0)] := hl
  obtain ⟨H, hHe⟩ : ∃ H, s.heap = H := ⟨_, rfl⟩
  have hP : va_P D vwCl [(h0, .inr (2, [.ref h1, v0, v1, .int 0, v2])), (h1, .inr (6, [v3, .int 0]))] H := by rw [← hHe]; exact hP
  have hS : va_S A s.heap H [] := by rw [← hHe]; exact hS
  refine kn_heap hHe ?_
  refine lv_aload_n hx hb dX3_advance_0 rfl (lv_at hl 0 rfl) ?_
  refine lv_aload_n hx hb dX3_advance_1 rfl (lv_at hl 0 rfl) ?_
  refine va_get (D := D) (ci := 2) (v := .int 0) (C := RX3) (T := TX3) (N := 5) hx hb hts inw_X3_advance_X3 hown hK hP 0 rfl rfl 3 (by decide) (hts (.fieldLink RX3 15 "EarTable$Scanner" "behind" "I") (by decide +kernel)) (fun _ h9 => h9) rfl dX3_advance_2 ?_
  refine va_put (D := D) (ci := 2) (v := .int 0) (ty := .int) (C := RX3) (T := TX3) (N := 5) hx hb hts inw_X3_advance_X3 tyX3 tyX3_ok nmX3 hown hK hP hD hS 0 rfl rfl 2 (by decide) (hts (.fieldLink RX3 22 "EarTable$Scanner" "place" "I") (by decide +kernel)) (fun _ h9 => h9) rfl (by decide +kernel) rfl rfl (Nat.le_of_ble_eq_true rfl) dX3_advance_5 (fun H locs hP hD hS => ?_)
  have hP : va_P D vwCl [(h0, .inr (2, [.ref h1, v0, .int 0, .int 0, v2])), (h1, .inr (6, [v3, .int 0]))] H := hP
  have hD : va_D A [(h0, .inr (2, [.ref h1, v0, .int 0, .int 0, v2])), (h1, .inr (6, [v3, .int 0]))] := hD
  refine lv_aload_n hx hb dX3_advance_8 rfl (lv_at hl 0 rfl) ?_
  refine va_get (D := D) (ci := 2) (v := .int 0) (C := RX3) (T := TX3) (N := 5) hx hb hts inw_X3_advance_X3 hown hK hP 0 rfl rfl 2 (by decide) (hts (.fieldLink RX3 22 "EarTable$Scanner" "place" "I") (by decide +kernel)) (fun _ h9 => h9) rfl dX3_advance_9 ?_
  refine lv_aload_n hx hb dX3_advance_12 rfl (lv_at hl 0 rfl) ?_
  refine va_get (D := D) (ci := 2) (v := .ref h1) (C := RX3) (T := TX3) (N := 5) hx hb hts inw_X3_advance_X3 hown hK hP 0 rfl rfl 0 (by decide) (hts (.fieldLink RX3 9 "EarTable$Scanner" "tape" "LEarTable$Tape;") (by decide +kernel)) (fun _ h9 => h9) rfl dX3_advance_13 ?_
  refine va_getN (D := D) (ci := 6) (v := .int 0) (C := RX7) (T := TX7) (N := 2) hx hb hts inw_X3_advance_X7 hown hK hP 1 rfl rfl 1 (by decide) (va_Nw.use rfl (hN.1 (RX3, 25, "EarTable$Tape", "length", "I") (by decide +kernel))) (fun _ h9 => h9) rfl dX3_advance_16 ?_
  refine lv_icmp_ge (tgt := 52) hx hb dX3_advance_19 (by decide) (fun c_424 => ?_) (fun c_424 => ?_)
  · skip
    refine lv_aload_n hx hb dX3_advance_52 rfl (lv_at hl 0 rfl) ?_
    refine va_get (D := D) (ci := 2) (v := .ref h1) (C := RX3) (T := TX3) (N := 5) hx hb hts inw_X3_advance_X3 hown hK hP 0 rfl rfl 0 (by decide) (hts (.fieldLink RX3 9 "EarTable$Scanner" "tape" "LEarTable$Tape;") (by decide +kernel)) (fun _ h9 => h9) rfl dX3_advance_53 ?_
    refine lv_aload_n hx hb dX3_advance_56 rfl (lv_at hl 0 rfl) ?_
    refine va_get (D := D) (ci := 2) (v := .int 0) (C := RX3) (T := TX3) (N := 5) hx hb hts inw_X3_advance_X3 hown hK hP 0 rfl rfl 2 (by decide) (hts (.fieldLink RX3 22 "EarTable$Scanner" "place" "I") (by decide +kernel)) (fun _ h9 => h9) rfl dX3_advance_57 ?_
    have hPc := hP.sub (ws' := [(h1, .inr (6, [v3, .int 0]))]) [1] rfl
    have hDc := hD.sub (ws' := [(h1, .inr (6, [v3, .int 0]))]) [1] (by decide) rfl
    refine kn_calli (wr := [(h0, .inr (2, [.ref h1, v0, .int 0, .int 0, v2]))]) (cells' := 0) (slots' := 0) (va_runV (As := [.int 0]) (rest := []) ⟨hx, hb, hml, hown, hts⟩ (c_X7_byteAt l D cI cJ cZ cB H.size h1 v3) (cwV 1 hts (goodIn_app (goodIn_of _ (by decide +kernel)) gs_X3_advance__X7_byteAt) rfl rfl rfl (by decide +kernel) ⟨(Nat.le_of_ble_eq_true rfl), (Nat.le_of_ble_eq_true rfl)⟩) (kp_V 0 6 rfl rfl hPc hK hN hDc) rfl rfl hl.1 rfl (lv_room (Nat.le_of_ble_eq_true rfl)) dX3_advance_60 ⟨(Nat.le_of_ble_eq_true rfl), (Nat.le_of_ble_eq_true rfl)⟩) hS hA hP hD [1] [0] rfl rfl (by decide) (by decide) (Nat.le_of_ble_eq_true rfl) (Nat.le_of_ble_eq_true rfl) (fun r_425 u H locs hw_426 hP hD hS => ?_)
    have hP : va_P D vwCl [(h0, .inr (2, [.ref h1, v0, .int 0, .int 0, v2])), (h1, .inr (6, [v3, .int 0]))] H := hP
    have hD : va_D A [(h0, .inr (2, [.ref h1, v0, .int 0, .int 0, v2])), (h1, .inr (6, [v3, .int 0]))] := hD
    subst hw_426
    refine lv_istore_n (lv' := [(1, .int (-1)), (0, .ref h0)]) hx hb dX3_advance_63 rfl hl (by decide) rfl (fun ls hl => ?_)
    refine lv_aload_n hx hb dX3_advance_64 rfl (lv_at hl 1 rfl) ?_
    refine lv_lconst (v := 0) hx hb dX3_advance_65 (by decide) ?_
    refine va_put (D := D) (ci := 2) (v := .long 0) (ty := .long) (C := RX3) (T := TX3) (N := 5) hx hb hts inw_X3_advance_X3 tyX3 tyX3_ok nmX3 hown hK hP hD hS 0 rfl rfl 4 (by decide) (hts (.fieldLink RX3 38 "EarTable$Scanner" "content" "J") (by decide +kernel)) (fun _ h9 => h9) rfl (by decide +kernel) rfl rfl (Nat.le_of_ble_eq_true rfl) dX3_advance_66 (fun H locs hP hD hS => ?_)
    have hP : va_P D vwCl [(h0, .inr (2, [.ref h1, v0, .int 0, .int 0, .long 0])), (h1, .inr (6, [v3, .int 0]))] H := hP
    have hD : va_D A [(h0, .inr (2, [.ref h1, v0, .int 0, .int 0, .long 0])), (h1, .inr (6, [v3, .int 0]))] := hD
    refine lv_iload_n hx hb dX3_advance_69 rfl (lv_at hl 0 rfl) ?_
    have hPc := hP.sub (ws' := []) [] rfl
    have hDc := hD.sub (ws' := []) [] (by decide) rfl
    refine kn_calli (wr := [(h0, .inr (2, [.ref h1, v0, .int 0, .int 0, .long 0])), (h1, .inr (6, [v3, .int 0]))]) (cells' := 0) (slots' := 0) (va_runS (As := [.int (-1)]) (rest := []) ⟨hx, hb, hml, hown, hts⟩ (c_X3_isLetter l D cI cJ cZ cB H.size ) (va_cwS 1 hts (goodIn_app (goodIn_of _ (by decide +kernel)) gs_X3_advance__X3_isLetter) rfl rfl rfl (by decide +kernel) ⟨(Nat.le_of_ble_eq_true rfl), (Nat.le_of_ble_eq_true rfl)⟩) (kp_S hPc hK hN hDc) rfl rfl hl.1 rfl (lv_room (Nat.le_of_ble_eq_true rfl)) dX3_advance_70 ⟨(Nat.le_of_ble_eq_true rfl), (Nat.le_of_ble_eq_true rfl)⟩) hS hA hP hD [] [0, 1] rfl rfl (by decide) (by decide) (Nat.le_of_ble_eq_true rfl) (Nat.le_of_ble_eq_true rfl) (fun r_427 u H locs hw_428 hP hD hS => ?_)
    have hP : va_P D vwCl [(h0, .inr (2, [.ref h1, v0, .int 0, .int 0, .long 0])), (h1, .inr (6, [v3, .int 0]))] H := hP
    have hD : va_D A [(h0, .inr (2, [.ref h1, v0, .int 0, .int 0, .long 0])), (h1, .inr (6, [v3, .int 0]))] := hD
    subst hw_428
    refine lv_if_eq (tgt := 83) hx hb dX3_advance_73 (by decide) (fun c_429 => ?_) (fun c_429 => ?_)
    · skip
      refine lv_iload_n hx hb dX3_advance_83 rfl (lv_at hl 0 rfl) ?_
      have hPc := hP.sub (ws' := []) [] rfl
      have hDc := hD.sub (ws' := []) [] (by decide) rfl
      refine kn_calli (wr := [(h0, .inr (2, [.ref h1, v0, .int 0, .int 0, .long 0])), (h1, .inr (6, [v3, .int 0]))]) (cells' := 0) (slots' := 0) (va_runS (As := [.int (-1)]) (rest := []) ⟨hx, hb, hml, hown, hts⟩ (c_X3_isDigit l D cI cJ cZ cB H.size ) (va_cwS 1 hts (goodIn_app (goodIn_of _ (by decide +kernel)) gs_X3_advance__X3_isDigit) rfl rfl rfl (by decide +kernel) ⟨(Nat.le_of_ble_eq_true rfl), (Nat.le_of_ble_eq_true rfl)⟩) (kp_S hPc hK hN hDc) rfl rfl hl.1 rfl (lv_room (Nat.le_of_ble_eq_true rfl)) dX3_advance_84 ⟨(Nat.le_of_ble_eq_true rfl), (Nat.le_of_ble_eq_true rfl)⟩) hS hA hP hD [] [0, 1] rfl rfl (by decide) (by decide) (Nat.le_of_ble_eq_true rfl) (Nat.le_of_ble_eq_true rfl) (fun r_430 u H locs hw_431 hP hD hS => ?_)
      have hP : va_P D vwCl [(h0, .inr (2, [.ref h1, v0, .int 0, .int 0, .long 0])), (h1, .inr (6, [v3, .int 0]))] H := hP
      have hD : va_D A [(h0, .inr (2, [.ref h1, v0, .int 0, .int 0, .long 0])), (h1, .inr (6, [v3, .int 0]))] := hD
      subst hw_431
      refine lv_if_eq (tgt := 102) hx hb dX3_advance_87 (by decide) (fun c_432 => ?_) (fun c_432 => ?_)
      · skip
        refine lv_iload_n hx hb dX3_advance_102 rfl (lv_at hl 0 rfl) ?_
        refine lv_bipush (v := 45) hx hb dX3_advance_103 (by decide) ?_
        refine lv_icmp_ne (tgt := 141) hx hb dX3_advance_105 (by decide) (fun c_433 => ?_) (fun c_433 => ?_)
        · skip
          refine lv_aload_n hx hb dX3_advance_141 rfl (lv_at hl 1 rfl) ?_
          refine lv_iload_n hx hb dX3_advance_142 rfl (lv_at hl 0 rfl) ?_
          have hPc := hP.sub (ws' := []) [] rfl
          have hDc := hD.sub (ws' := []) [] (by decide) rfl
          refine kn_calli (wr := [(h0, .inr (2, [.ref h1, v0, .int 0, .int 0, .long 0])), (h1, .inr (6, [v3, .int 0]))]) (cells' := 0) (slots' := 0) (va_runS (As := [.int (-1)]) (rest := [.ref h0]) ⟨hx, hb, hml, hown, hts⟩ (c_X3_kindOfSign l D cI cJ cZ cB H.size ) (va_cwS 1 hts (goodIn_app (goodIn_of _ (by decide +kernel)) gs_X3_advance__X3_kindOfSign) rfl rfl rfl (by decide +kernel) ⟨(Nat.le_of_ble_eq_true rfl), (Nat.le_of_ble_eq_true rfl)⟩) (kp_S hPc hK hN hDc) rfl rfl hl.1 rfl (lv_room (Nat.le_of_ble_eq_true rfl)) dX3_advance_143 ⟨(Nat.le_of_ble_eq_true rfl), (Nat.le_of_ble_eq_true rfl)⟩) hS hA hP hD [] [0, 1] rfl rfl (by decide) (by decide) (Nat.le_of_ble_eq_true rfl) (Nat.le_of_ble_eq_true rfl) (fun r_434 u H locs hw_435 hP hD hS => ?_)
          have hP : va_P D vwCl [(h0, .inr (2, [.ref h1, v0, .int 0, .int 0, .long 0])), (h1, .inr (6, [v3, .int 0]))] H := hP
          have hD : va_D A [(h0, .inr (2, [.ref h1, v0, .int 0, .int 0, .long 0])), (h1, .inr (6, [v3, .int 0]))] := hD
          subst hw_435
          refine va_put (D := D) (ci := 2) (v := .int 0) (ty := .int) (C := RX3) (T := TX3) (N := 5) hx hb hts inw_X3_advance_X3 tyX3 tyX3_ok nmX3 hown hK hP hD hS 0 rfl rfl 1 (by decide) (hts (.fieldLink RX3 58 "EarTable$Scanner" "kind" "I") (by decide +kernel)) (fun _ h9 => h9) rfl (by decide +kernel) rfl rfl (Nat.le_of_ble_eq_true rfl) dX3_advance_146 (fun H locs hP hD hS => ?_)
          have hP : va_P D vwCl [(h0, .inr (2, [.ref h1, .int 0, .int 0, .int 0, .long 0])), (h1, .inr (6, [v3, .int 0]))] H := hP
          have hD : va_D A [(h0, .inr (2, [.ref h1, .int 0, .int 0, .int 0, .long 0])), (h1, .inr (6, [v3, .int 0]))] := hD
          refine lv_aload_n hx hb dX3_advance_149 rfl (lv_at hl 1 rfl) ?_
          refine lv_aload_n hx hb dX3_advance_150 rfl (lv_at hl 1 rfl) ?_
          refine va_get (D := D) (ci := 2) (v := .int 0) (C := RX3) (T := TX3) (N := 5) hx hb hts inw_X3_advance_X3 hown hK hP 0 rfl rfl 2 (by decide) (hts (.fieldLink RX3 22 "EarTable$Scanner" "place" "I") (by decide +kernel)) (fun _ h9 => h9) rfl dX3_advance_151 ?_
          refine lv_aload_n hx hb dX3_advance_154 rfl (lv_at hl 1 rfl) ?_
          refine va_get (D := D) (ci := 2) (v := .int 0) (C := RX3) (T := TX3) (N := 5) hx hb hts inw_X3_advance_X3 hown hK hP 0 rfl rfl 1 (by decide) (hts (.fieldLink RX3 58 "EarTable$Scanner" "kind" "I") (by decide +kernel)) (fun _ h9 => h9) rfl dX3_advance_155 ?_
          refine lv_if_ne (tgt := 165) hx hb dX3_advance_158 (by decide) (fun c_436 => ?_) (fun c_436 => ?_)
          · skip
            exact absurd rfl c_436
          · skip
            refine lv_iconst (v := 0) hx hb dX3_advance_161 (by decide) ?_
            refine lv_goto (tgt := 166) hx hb dX3_advance_162 (by decide) ?_
            refine lv_iadd hx hb dX3_advance_166 ?_
            refine kn_top (y := 0) (by decide) ?_
            refine va_put (D := D) (ci := 2) (v := .int 0) (ty := .int) (C := RX3) (T := TX3) (N := 5) hx hb hts inw_X3_advance_X3 tyX3 tyX3_ok nmX3 hown hK hP hD hS 0 rfl rfl 3 (by decide) (hts (.fieldLink RX3 15 "EarTable$Scanner" "behind" "I") (by decide +kernel)) (fun _ h9 => h9) rfl (by decide +kernel) rfl rfl (Nat.le_of_ble_eq_true rfl) dX3_advance_167 (fun H locs hP hD hS => ?_)
            have hP : va_P D vwCl [(h0, .inr (2, [.ref h1, .int 0, .int 0, .int 0, .long 0])), (h1, .inr (6, [v3, .int 0]))] H := hP
            have hD : va_D A [(h0, .inr (2, [.ref h1, .int 0, .int 0, .int 0, .long 0])), (h1, .inr (6, [v3, .int 0]))] := hD
            have hP9 := hP.sub (ws' := [(h0, .inr (2, [.ref h1, .int 0, .int 0, .int 0, .long 0])), (h1, .inr (6, [v3, .int 0]))]) [0, 1] rfl
            have hD9 := hD.sub (ws' := [(h0, .inr (2, [.ref h1, .int 0, .int 0, .int 0, .long 0])), (h1, .inr (6, [v3, .int 0]))]) [0, 1] (by decide) rfl
            exact W.vret hx hb hr (fun t ht hW => ⟨⟨(), rfl, trivial, by rw [ht]; exact hP9, hD9⟩, hS.F ht⟩) hS.2.2 dX3_advance_170
        · skip
          exact absurd c_433 (by decide)
      · skip
        exact absurd rfl c_432
    · skip
      exact absurd rfl c_429
  · skip
    exact absurd rfl c_424
def o_X3_restart : List Cond := [.fieldLink RX3 15 "EarTable$Scanner" "behind" "I", .methodLink RX3 19 yX3_advance, .instanceMethod yX3_advance, .selects RX3 yX3_advance yX3_advance, .initialized RX3]
def u_X3_restart : List Cond := .code yX3_restart cX3_restart 1 none :: (o_X3_restart ++ (u_X3_advance ++ (wsX30 ++ ([] : List Cond))))
theorem gs_X3_restart__X3_advance : GoodIn u_X3_restart u_X3_advance := goodIn_sub (fun w h => List.mem_cons_of_mem _ (List.mem_append_right _ (List.mem_append_left _ h))) good_X3_advance
theorem inw_X3_restart_X3 : ∀ w ∈ wsX30, w ∈ u_X3_restart := fun w h => List.mem_cons_of_mem _ (List.mem_append_right _ (List.mem_append_right _ (List.mem_append_left _ h)))
set_option maxRecDepth 20000 in
theorem good_X3_restart : u_X3_restart.all goodWord = true := by decide +kernel
set_option maxRecDepth 20000 in
theorem in_X3_restart : ∀ w ∈ u_X3_restart, w ∈ lw_tbl := ma_cons inc_X3_restart (ma_app (ma_pos o_X3_restart [121, 448, 449, 450, 67] (by decide +kernel)) (ma_app in_X3_advance (ma_app inb_X3 ma_nil)))
set_option maxHeartbeats 4000000 in
set_option maxRecDepth 100000 in
theorem c_X3_restart (l : Launch) (D : va_G) (cI cJ cZ cB : ClassId) (sz : Nat) (h0 : Nat) (h1 : Nat) (v0 : Value) (v1 : Value) (v2 : Value) (v3 : Value) (v4 : Value) : Met l yX3_restart u_X3_restart ({ frames := 2, cells := 0, slots := 0, locals := 42 }) (va_Pc [.ref h0] (kPre D cI cJ cZ cB [(h0, .inr (2, [.ref h1, v0, v1, v2, v3])), (h1, .inr (6, [v4, .int 0]))] sz)) (va_Qv (fun (_ : Unit) => True) (kB D (fun (u : Unit) => [(h0, .inr (2, [.ref h1, .int 0, .int 0, .int 0, .long 0])), (h1, .inr (6, [v4, .int 0]))]) (va_A [(h0, .inr (2, [.ref h1, v0, v1, v2, v3])), (h1, .inr (6, [v4, .int 0]))] sz)) (va_A [(h0, .inr (2, [.ref h1, v0, v1, v2, v3])), (h1, .inr (6, [v4, .int 0]))] sz)) 0 0 (va_A [(h0, .inr (2, [.ref h1, v0, v1, v2, v3])), (h1, .inr (6, [v4, .int 0]))] sz) := by
  refine Met.ofW (cc := cX3_restart) (maxL := 1) (ret := none) (by decide) rfl ?_
  intro p e s m args below meth c s₁ B hml hv
  obtain ⟨rfl, hsz, hP, hK, hN, hD0⟩ := hv
  have hx := B.exec
  have hb := B.bytes
  have hr := B.returns
  have hts := atoms_spec (ws := u_X3_restart) B.pre
  have hown : s.vm.findClass RX3 = some m.cls := findClass_of_methodNamed B.named
  have hlocks := B.notSynchronized
  subst hsz
  have hD := hD0.self (sz := s.heap.size)
  generalize hAe : va_A [(h0, .inr (2, [.ref h1, v0, v1, v2, v3])), (h1, .inr (6, [v4, .int 0]))] s.heap.size = A at hD ⊢
  have hA : ∀ q : Nat, s.heap.size ≤ q → A q := fun q h => by rw [← hAe]; exact Or.inr h
  have hS : va_S A s.heap s.heap [] := va_S.rf
  have hP : va_P D vwCl [(h0, .inr (2, [.ref h1, v0, v1, v2, v3])), (h1, .inr (6, [v4, .int 0]))] s.heap := hP
  have hl := lv_entry ([.ref h0]) (n := 1) (Nat.le_of_ble_eq_true rfl)
  rw [lg_entry_eq]
  generalize (lg_sl ([.ref h0]) ++ List.replicate (1 - (lg_sl ([.ref h0])).length) Slot.unset).toArray = ls at hl ⊢
  have hl : lv_has ls 1 [(0, .ref h0)] := hl
  obtain ⟨H, hHe⟩ : ∃ H, s.heap = H := ⟨_, rfl⟩
  have hP : va_P D vwCl [(h0, .inr (2, [.ref h1, v0, v1, v2, v3])), (h1, .inr (6, [v4, .int 0]))] H := by rw [← hHe]; exact hP
  have hS : va_S A s.heap H [] := by rw [← hHe]; exact hS
  refine kn_heap hHe ?_
  refine lv_aload_n hx hb dX3_restart_0 rfl (lv_at hl 0 rfl) ?_
  refine lv_iconst (v := 0) hx hb dX3_restart_1 (by decide) ?_
  refine va_put (D := D) (ci := 2) (v := .int 0) (ty := .int) (C := RX3) (T := TX3) (N := 5) hx hb hts inw_X3_restart_X3 tyX3 tyX3_ok nmX3 hown hK hP hD hS 0 rfl rfl 3 (by decide) (hts (.fieldLink RX3 15 "EarTable$Scanner" "behind" "I") (by decide +kernel)) (fun _ h9 => h9) rfl (by decide +kernel) rfl rfl (Nat.le_of_ble_eq_true rfl) dX3_restart_2 (fun H locs hP hD hS => ?_)
  have hP : va_P D vwCl [(h0, .inr (2, [.ref h1, v0, v1, .int 0, v3])), (h1, .inr (6, [v4, .int 0]))] H := hP
  have hD : va_D A [(h0, .inr (2, [.ref h1, v0, v1, .int 0, v3])), (h1, .inr (6, [v4, .int 0]))] := hD
  refine lv_aload_n hx hb dX3_restart_5 rfl (lv_at hl 0 rfl) ?_
  have hPc := hP.sub (ws' := [(h0, .inr (2, [.ref h1, v0, v1, .int 0, v3])), (h1, .inr (6, [v4, .int 0]))]) [0, 1] rfl
  have hDc := hD.sub (ws' := [(h0, .inr (2, [.ref h1, v0, v1, .int 0, v3])), (h1, .inr (6, [v4, .int 0]))]) [0, 1] (by decide) rfl
  refine kn_callv (wr := []) (cells' := 0) (slots' := 0) (va_runV (As := []) (rest := []) ⟨hx, hb, hml, hown, hts⟩ (c_X3_advance l D cI cJ cZ cB H.size h0 h1 v0 v1 v3 v4) (cwV 0 hts (goodIn_app (goodIn_of _ (by decide +kernel)) gs_X3_restart__X3_advance) rfl rfl rfl (by decide +kernel) ⟨(Nat.le_of_ble_eq_true rfl), (Nat.le_of_ble_eq_true rfl)⟩) (kp_V 0 2 rfl rfl hPc hK hN hDc) rfl rfl hl.1 rfl (lv_room (Nat.le_of_ble_eq_true rfl)) dX3_restart_6 ⟨(Nat.le_of_ble_eq_true rfl), (Nat.le_of_ble_eq_true rfl)⟩) hS hA hP hD [0, 1] [] rfl rfl (by decide) (by decide) (Nat.le_of_ble_eq_true rfl) (Nat.le_of_ble_eq_true rfl) (fun u H locs hw_424 hP hD hS => ?_)
  have hP : va_P D vwCl [(h0, .inr (2, [.ref h1, .int 0, .int 0, .int 0, .long 0])), (h1, .inr (6, [v4, .int 0]))] H := hP
  have hD : va_D A [(h0, .inr (2, [.ref h1, .int 0, .int 0, .int 0, .long 0])), (h1, .inr (6, [v4, .int 0]))] := hD
  have hP9 := hP.sub (ws' := [(h0, .inr (2, [.ref h1, .int 0, .int 0, .int 0, .long 0])), (h1, .inr (6, [v4, .int 0]))]) [0, 1] rfl
  have hD9 := hD.sub (ws' := [(h0, .inr (2, [.ref h1, .int 0, .int 0, .int 0, .long 0])), (h1, .inr (6, [v4, .int 0]))]) [0, 1] (by decide) rfl
  exact W.vret hx hb hr (fun t ht hW => ⟨⟨(), rfl, trivial, by rw [ht]; exact hP9, hD9⟩, hS.F ht⟩) hS.2.2 dX3_restart_9
def o_X6_readTape : List Cond := [.fieldLink RX6 27 "EarTable$TableReader" "faultKind" "I", .fieldLink RX6 31 "EarTable$TableReader" "faultPlace" "I", .fieldLink RX6 23 "EarTable$TableReader" "grid" "LEarTable$Grid;", .fieldLink RX6 14 "EarTable$TableReader" "scanner" "LEarTable$Scanner;", .methodLink RX6 43 yX3_restart, .instanceMethod yX3_restart, .selects RX3 yX3_restart yX3_restart, .initialized RX3]
def u_X6_readTape : List Cond := .code yX6_readTape cX6_readTape 2 (some .boolean) :: (o_X6_readTape ++ (u_X3_restart ++ (wsX60 ++ (wsX10 ++ (wsX30 ++ ([] : List Cond))))))
theorem gs_X6_readTape__X3_restart : GoodIn u_X6_readTape u_X3_restart := goodIn_sub (fun w h => List.mem_cons_of_mem _ (List.mem_append_right _ (List.mem_append_left _ h))) good_X3_restart
theorem inw_X6_readTape_X6 : ∀ w ∈ wsX60, w ∈ u_X6_readTape := fun w h => List.mem_cons_of_mem _ (List.mem_append_right _ (List.mem_append_right _ (List.mem_append_left _ h)))
theorem inw_X6_readTape_X1 : ∀ w ∈ wsX10, w ∈ u_X6_readTape := fun w h => List.mem_cons_of_mem _ (List.mem_append_right _ (List.mem_append_right _ (List.mem_append_right _ (List.mem_append_left _ h))))
theorem inw_X6_readTape_X3 : ∀ w ∈ wsX30, w ∈ u_X6_readTape := fun w h => List.mem_cons_of_mem _ (List.mem_append_right _ (List.mem_append_right _ (List.mem_append_right _ (List.mem_append_right _ (List.mem_append_left _ h)))))
set_option maxRecDepth 20000 in
theorem good_X6_readTape : u_X6_readTape.all goodWord = true := by decide +kernel
set_option maxRecDepth 20000 in
theorem in_X6_readTape : ∀ w ∈ u_X6_readTape, w ∈ lw_tbl := ma_cons inc_X6_readTape (ma_app (ma_pos o_X6_readTape [192, 194, 190, 189, 444, 445, 446, 67] (by decide +kernel)) (ma_app in_X3_restart (ma_app inb_X6 (ma_app inb_X1 (ma_app inb_X3 ma_nil)))))
set_option maxHeartbeats 4000000 in
set_option maxRecDepth 100000 in
theorem c_X6_readTape (l : Launch) (D : va_G) (cI cJ cZ cB : ClassId) (sz : Nat) (h0 : Nat) (h1 : Nat) (h2 : Nat) (h3 : Nat) (v0 : Value) (v1 : Value) (v2 : Value) (v3 : Value) (v4 : Value) (v5 : Value) (v6 : Value) (v7 : Value) (v8 : Value) (v9 : Value) (v10 : Value) (v11 : Value) (v12 : Value) (v13 : Value) (v14 : Value) : Met l yX6_readTape u_X6_readTape ({ frames := 3, cells := 0, slots := 0, locals := 62 }) (va_Pc [.ref h0] (kPre D cI cJ cZ cB [(h0, .inr (5, [.ref h2, .ref h1, v0, v1])), (h1, .inr (1, [v2, v3, v4, v5, v6, v7, v8, v9])), (h2, .inr (2, [.ref h3, v10, v11, v12, v13])), (h3, .inr (6, [v14, .int 0]))] sz)) (va_Qi (fun (r : Int32) (_ : Unit) => r = 1) (kB D (fun (u : Unit) => [(h0, .inr (5, [.ref h2, .ref h1, .int 0, .int (-1)])), (h1, .inr (1, [v2, v3, v4, v5, v6, .int 0, .int 0, .int 0])), (h2, .inr (2, [.ref h3, .int 0, .int 0, .int 0, .long 0])), (h3, .inr (6, [v14, .int 0]))]) (va_A [(h0, .inr (5, [.ref h2, .ref h1, v0, v1])), (h1, .inr (1, [v2, v3, v4, v5, v6, v7, v8, v9])), (h2, .inr (2, [.ref h3, v10, v11, v12, v13])), (h3, .inr (6, [v14, .int 0]))] sz)) (va_A [(h0, .inr (5, [.ref h2, .ref h1, v0, v1])), (h1, .inr (1, [v2, v3, v4, v5, v6, v7, v8, v9])), (h2, .inr (2, [.ref h3, v10, v11, v12, v13])), (h3, .inr (6, [v14, .int 0]))] sz)) 0 0 (va_A [(h0, .inr (5, [.ref h2, .ref h1, v0, v1])), (h1, .inr (1, [v2, v3, v4, v5, v6, v7, v8, v9])), (h2, .inr (2, [.ref h3, v10, v11, v12, v13])), (h3, .inr (6, [v14, .int 0]))] sz) := by
  refine Met.ofW (cc := cX6_readTape) (maxL := 2) (ret := (some .boolean)) (by decide) rfl ?_
  intro p e s m args below meth c s₁ B hml hv
  obtain ⟨rfl, hsz, hP, hK, hN, hD0⟩ := hv
  have hx := B.exec
  have hb := B.bytes
  have hr := B.returns
  have hts := atoms_spec (ws := u_X6_readTape) B.pre
  have hown : s.vm.findClass RX6 = some m.cls := findClass_of_methodNamed B.named
  have hlocks := B.notSynchronized
  subst hsz
  have hD := hD0.self (sz := s.heap.size)
  generalize hAe : va_A [(h0, .inr (5, [.ref h2, .ref h1, v0, v1])), (h1, .inr (1, [v2, v3, v4, v5, v6, v7, v8, v9])), (h2, .inr (2, [.ref h3, v10, v11, v12, v13])), (h3, .inr (6, [v14, .int 0]))] s.heap.size = A at hD ⊢
  have hA : ∀ q : Nat, s.heap.size ≤ q → A q := fun q h => by rw [← hAe]; exact Or.inr h
  have hS : va_S A s.heap s.heap [] := va_S.rf
  have hP : va_P D vwCl [(h0, .inr (5, [.ref h2, .ref h1, v0, v1])), (h1, .inr (1, [v2, v3, v4, v5, v6, v7, v8, v9])), (h2, .inr (2, [.ref h3, v10, v11, v12, v13])), (h3, .inr (6, [v14, .int 0]))] s.heap := hP
  have hl := lv_entry ([.ref h0]) (n := 2) (Nat.le_of_ble_eq_true rfl)
  rw [lg_entry_eq]
  generalize (lg_sl ([.ref h0]) ++ List.replicate (2 - (lg_sl ([.ref h0])).length) Slot.unset).toArray = ls at hl ⊢
  have hl : lv_has ls 2 [(0, .ref h0)] := hl
  obtain ⟨H, hHe⟩ : ∃ H, s.heap = H := ⟨_, rfl⟩
  have hP : va_P D vwCl [(h0, .inr (5, [.ref h2, .ref h1, v0, v1])), (h1, .inr (1, [v2, v3, v4, v5, v6, v7, v8, v9])), (h2, .inr (2, [.ref h3, v10, v11, v12, v13])), (h3, .inr (6, [v14, .int 0]))] H := by rw [← hHe]; exact hP
  have hS : va_S A s.heap H [] := by rw [← hHe]; exact hS
  refine kn_heap hHe ?_
  refine lv_aload_n hx hb dX6_readTape_0 rfl (lv_at hl 0 rfl) ?_
  refine lv_iconst (v := 0) hx hb dX6_readTape_1 (by decide) ?_
  refine va_put (D := D) (ci := 5) (v := .int 0) (ty := .int) (C := RX6) (T := TX6) (N := 4) hx hb hts inw_X6_readTape_X6 tyX6 tyX6_ok nmX6 hown hK hP hD hS 0 rfl rfl 2 (by decide) (hts (.fieldLink RX6 27 "EarTable$TableReader" "faultKind" "I") (by decide +kernel)) (fun _ h9 => h9) rfl (by decide +kernel) rfl rfl (Nat.le_of_ble_eq_true rfl) dX6_readTape_2 (fun H locs hP hD hS => ?_)
  have hP : va_P D vwCl [(h0, .inr (5, [.ref h2, .ref h1, .int 0, v1])), (h1, .inr (1, [v2, v3, v4, v5, v6, v7, v8, v9])), (h2, .inr (2, [.ref h3, v10, v11, v12, v13])), (h3, .inr (6, [v14, .int 0]))] H := hP
  have hD : va_D A [(h0, .inr (5, [.ref h2, .ref h1, .int 0, v1])), (h1, .inr (1, [v2, v3, v4, v5, v6, v7, v8, v9])), (h2, .inr (2, [.ref h3, v10, v11, v12, v13])), (h3, .inr (6, [v14, .int 0]))] := hD
  refine lv_aload_n hx hb dX6_readTape_5 rfl (lv_at hl 0 rfl) ?_
  refine lv_iconst (v := (-1)) hx hb dX6_readTape_6 (by decide) ?_
  refine va_put (D := D) (ci := 5) (v := .int (-1)) (ty := .int) (C := RX6) (T := TX6) (N := 4) hx hb hts inw_X6_readTape_X6 tyX6 tyX6_ok nmX6 hown hK hP hD hS 0 rfl rfl 3 (by decide) (hts (.fieldLink RX6 31 "EarTable$TableReader" "faultPlace" "I") (by decide +kernel)) (fun _ h9 => h9) rfl (by decide +kernel) rfl rfl (Nat.le_of_ble_eq_true rfl) dX6_readTape_7 (fun H locs hP hD hS => ?_)
  have hP : va_P D vwCl [(h0, .inr (5, [.ref h2, .ref h1, .int 0, .int (-1)])), (h1, .inr (1, [v2, v3, v4, v5, v6, v7, v8, v9])), (h2, .inr (2, [.ref h3, v10, v11, v12, v13])), (h3, .inr (6, [v14, .int 0]))] H := hP
  have hD : va_D A [(h0, .inr (5, [.ref h2, .ref h1, .int 0, .int (-1)])), (h1, .inr (1, [v2, v3, v4, v5, v6, v7, v8, v9])), (h2, .inr (2, [.ref h3, v10, v11, v12, v13])), (h3, .inr (6, [v14, .int 0]))] := hD
  refine lv_aload_n hx hb dX6_readTape_10 rfl (lv_at hl 0 rfl) ?_
  refine va_get (D := D) (ci := 5) (v := .ref h1) (C := RX6) (T := TX6) (N := 4) hx hb hts inw_X6_readTape_X6 hown hK hP 0 rfl rfl 1 (by decide) (hts (.fieldLink RX6 23 "EarTable$TableReader" "grid" "LEarTable$Grid;") (by decide +kernel)) (fun _ h9 => h9) rfl dX6_readTape_11 ?_
  refine lv_iconst (v := 0) hx hb dX6_readTape_14 (by decide) ?_
  refine va_putN (D := D) (ci := 1) (v := .int 0) (ty := .int) (C := RX1) (T := TX1) (N := 8) hx hb hts inw_X6_readTape_X1 tyX1 tyX1_ok nmX1 hown hK hP hD hS 1 rfl rfl 5 (by decide) (va_Nw.use rfl (hN.1 (RX6, 34, "EarTable$Grid", "columns", "I") (by decide +kernel))) (fun _ h9 => h9) rfl (by decide +kernel) rfl rfl (Nat.le_of_ble_eq_true rfl) dX6_readTape_15 (fun H locs hP hD hS => ?_)
  have hP : va_P D vwCl [(h0, .inr (5, [.ref h2, .ref h1, .int 0, .int (-1)])), (h1, .inr (1, [v2, v3, v4, v5, v6, .int 0, v8, v9])), (h2, .inr (2, [.ref h3, v10, v11, v12, v13])), (h3, .inr (6, [v14, .int 0]))] H := hP
  have hD : va_D A [(h0, .inr (5, [.ref h2, .ref h1, .int 0, .int (-1)])), (h1, .inr (1, [v2, v3, v4, v5, v6, .int 0, v8, v9])), (h2, .inr (2, [.ref h3, v10, v11, v12, v13])), (h3, .inr (6, [v14, .int 0]))] := hD
  refine lv_aload_n hx hb dX6_readTape_18 rfl (lv_at hl 0 rfl) ?_
  refine va_get (D := D) (ci := 5) (v := .ref h1) (C := RX6) (T := TX6) (N := 4) hx hb hts inw_X6_readTape_X6 hown hK hP 0 rfl rfl 1 (by decide) (hts (.fieldLink RX6 23 "EarTable$TableReader" "grid" "LEarTable$Grid;") (by decide +kernel)) (fun _ h9 => h9) rfl dX6_readTape_19 ?_
  refine lv_iconst (v := 0) hx hb dX6_readTape_22 (by decide) ?_
  refine va_putN (D := D) (ci := 1) (v := .int 0) (ty := .int) (C := RX1) (T := TX1) (N := 8) hx hb hts inw_X6_readTape_X1 tyX1 tyX1_ok nmX1 hown hK hP hD hS 1 rfl rfl 6 (by decide) (va_Nw.use rfl (hN.1 (RX6, 37, "EarTable$Grid", "lines", "I") (by decide +kernel))) (fun _ h9 => h9) rfl (by decide +kernel) rfl rfl (Nat.le_of_ble_eq_true rfl) dX6_readTape_23 (fun H locs hP hD hS => ?_)
  have hP : va_P D vwCl [(h0, .inr (5, [.ref h2, .ref h1, .int 0, .int (-1)])), (h1, .inr (1, [v2, v3, v4, v5, v6, .int 0, .int 0, v9])), (h2, .inr (2, [.ref h3, v10, v11, v12, v13])), (h3, .inr (6, [v14, .int 0]))] H := hP
  have hD : va_D A [(h0, .inr (5, [.ref h2, .ref h1, .int 0, .int (-1)])), (h1, .inr (1, [v2, v3, v4, v5, v6, .int 0, .int 0, v9])), (h2, .inr (2, [.ref h3, v10, v11, v12, v13])), (h3, .inr (6, [v14, .int 0]))] := hD
  refine lv_aload_n hx hb dX6_readTape_26 rfl (lv_at hl 0 rfl) ?_
  refine va_get (D := D) (ci := 5) (v := .ref h1) (C := RX6) (T := TX6) (N := 4) hx hb hts inw_X6_readTape_X6 hown hK hP 0 rfl rfl 1 (by decide) (hts (.fieldLink RX6 23 "EarTable$TableReader" "grid" "LEarTable$Grid;") (by decide +kernel)) (fun _ h9 => h9) rfl dX6_readTape_27 ?_
  refine lv_iconst (v := 0) hx hb dX6_readTape_30 (by decide) ?_
  refine va_putN (D := D) (ci := 1) (v := .int 0) (ty := .int) (C := RX1) (T := TX1) (N := 8) hx hb hts inw_X6_readTape_X1 tyX1 tyX1_ok nmX1 hown hK hP hD hS 1 rfl rfl 7 (by decide) (va_Nw.use rfl (hN.1 (RX6, 40, "EarTable$Grid", "levels", "I") (by decide +kernel))) (fun _ h9 => h9) rfl (by decide +kernel) rfl rfl (Nat.le_of_ble_eq_true rfl) dX6_readTape_31 (fun H locs hP hD hS => ?_)
  have hP : va_P D vwCl [(h0, .inr (5, [.ref h2, .ref h1, .int 0, .int (-1)])), (h1, .inr (1, [v2, v3, v4, v5, v6, .int 0, .int 0, .int 0])), (h2, .inr (2, [.ref h3, v10, v11, v12, v13])), (h3, .inr (6, [v14, .int 0]))] H := hP
  have hD : va_D A [(h0, .inr (5, [.ref h2, .ref h1, .int 0, .int (-1)])), (h1, .inr (1, [v2, v3, v4, v5, v6, .int 0, .int 0, .int 0])), (h2, .inr (2, [.ref h3, v10, v11, v12, v13])), (h3, .inr (6, [v14, .int 0]))] := hD
  refine lv_aload_n hx hb dX6_readTape_34 rfl (lv_at hl 0 rfl) ?_
  refine va_get (D := D) (ci := 5) (v := .ref h2) (C := RX6) (T := TX6) (N := 4) hx hb hts inw_X6_readTape_X6 hown hK hP 0 rfl rfl 0 (by decide) (hts (.fieldLink RX6 14 "EarTable$TableReader" "scanner" "LEarTable$Scanner;") (by decide +kernel)) (fun _ h9 => h9) rfl dX6_readTape_35 ?_
  have hPc := hP.sub (ws' := [(h2, .inr (2, [.ref h3, v10, v11, v12, v13])), (h3, .inr (6, [v14, .int 0]))]) [2, 3] rfl
  have hDc := hD.sub (ws' := [(h2, .inr (2, [.ref h3, v10, v11, v12, v13])), (h3, .inr (6, [v14, .int 0]))]) [2, 3] (by decide) rfl
  refine kn_callv (wr := [(h0, .inr (5, [.ref h2, .ref h1, .int 0, .int (-1)])), (h1, .inr (1, [v2, v3, v4, v5, v6, .int 0, .int 0, .int 0]))]) (cells' := 0) (slots' := 0) (va_runV (As := []) (rest := []) ⟨hx, hb, hml, hown, hts⟩ (c_X3_restart l D cI cJ cZ cB H.size h2 h3 v10 v11 v12 v13 v14) (cwV 0 hts (goodIn_app (goodIn_of _ (by decide +kernel)) gs_X6_readTape__X3_restart) rfl rfl rfl (by decide +kernel) ⟨(Nat.le_of_ble_eq_true rfl), (Nat.le_of_ble_eq_true rfl)⟩) (kp_V 0 2 rfl rfl hPc hK hN hDc) rfl rfl hl.1 rfl (lv_room (Nat.le_of_ble_eq_true rfl)) dX6_readTape_38 ⟨(Nat.le_of_ble_eq_true rfl), (Nat.le_of_ble_eq_true rfl)⟩) hS hA hP hD [2, 3] [0, 1] rfl rfl (by decide) (by decide) (Nat.le_of_ble_eq_true rfl) (Nat.le_of_ble_eq_true rfl) (fun u H locs hw_424 hP hD hS => ?_)
  have hP : va_P D vwCl [(h0, .inr (5, [.ref h2, .ref h1, .int 0, .int (-1)])), (h1, .inr (1, [v2, v3, v4, v5, v6, .int 0, .int 0, .int 0])), (h2, .inr (2, [.ref h3, .int 0, .int 0, .int 0, .long 0])), (h3, .inr (6, [v14, .int 0]))] H := hP
  have hD : va_D A [(h0, .inr (5, [.ref h2, .ref h1, .int 0, .int (-1)])), (h1, .inr (1, [v2, v3, v4, v5, v6, .int 0, .int 0, .int 0])), (h2, .inr (2, [.ref h3, .int 0, .int 0, .int 0, .long 0])), (h3, .inr (6, [v14, .int 0]))] := hD
  refine lv_iconst (v := 0) hx hb dX6_readTape_41 (by decide) ?_
  refine lv_istore_n (lv' := [(1, .int 0), (0, .ref h0)]) hx hb dX6_readTape_42 rfl hl (by decide) rfl (fun ls hl => ?_)
  refine lv_iload_n hx hb dX6_readTape_43 rfl (lv_at hl 0 rfl) ?_
  refine lv_bipush (v := 33) hx hb dX6_readTape_44 (by decide) ?_
  refine lv_icmp_ge (tgt := 74) hx hb dX6_readTape_46 (by decide) (fun c_425 => ?_) (fun c_425 => ?_)
  · skip
    exact absurd c_425 (by decide)
  · skip
    refine lv_aload_n hx hb dX6_readTape_49 rfl (lv_at hl 1 rfl) ?_
    refine va_get (D := D) (ci := 5) (v := .ref h2) (C := RX6) (T := TX6) (N := 4) hx hb hts inw_X6_readTape_X6 hown hK hP 0 rfl rfl 0 (by decide) (hts (.fieldLink RX6 14 "EarTable$TableReader" "scanner" "LEarTable$Scanner;") (by decide +kernel)) (fun _ h9 => h9) rfl dX6_readTape_50 ?_
    refine va_getN (D := D) (ci := 2) (v := .int 0) (C := RX3) (T := TX3) (N := 5) hx hb hts inw_X6_readTape_X3 hown hK hP 2 rfl rfl 1 (by decide) (va_Nw.use rfl (hN.1 (RX6, 46, "EarTable$Scanner", "kind", "I") (by decide +kernel))) (fun _ h9 => h9) rfl dX6_readTape_53 ?_
    refine lv_if_eq (tgt := 74) hx hb dX6_readTape_56 (by decide) (fun c_426 => ?_) (fun c_426 => ?_)
    · skip
      refine lv_aload_n hx hb dX6_readTape_74 rfl (lv_at hl 1 rfl) ?_
      refine va_get (D := D) (ci := 5) (v := .ref h2) (C := RX6) (T := TX6) (N := 4) hx hb hts inw_X6_readTape_X6 hown hK hP 0 rfl rfl 0 (by decide) (hts (.fieldLink RX6 14 "EarTable$TableReader" "scanner" "LEarTable$Scanner;") (by decide +kernel)) (fun _ h9 => h9) rfl dX6_readTape_75 ?_
      refine va_getN (D := D) (ci := 2) (v := .int 0) (C := RX3) (T := TX3) (N := 5) hx hb hts inw_X6_readTape_X3 hown hK hP 2 rfl rfl 1 (by decide) (va_Nw.use rfl (hN.1 (RX6, 46, "EarTable$Scanner", "kind", "I") (by decide +kernel))) (fun _ h9 => h9) rfl dX6_readTape_78 ?_
      refine lv_if_eq (tgt := 91) hx hb dX6_readTape_81 (by decide) (fun c_427 => ?_) (fun c_427 => ?_)
      · skip
        refine lv_iconst (v := 1) hx hb dX6_readTape_91 (by decide) ?_
        refine lv_goto (tgt := 96) hx hb dX6_readTape_92 (by decide) ?_
        have hP9 := hP.sub (ws' := [(h0, .inr (5, [.ref h2, .ref h1, .int 0, .int (-1)])), (h1, .inr (1, [v2, v3, v4, v5, v6, .int 0, .int 0, .int 0])), (h2, .inr (2, [.ref h3, .int 0, .int 0, .int 0, .long 0])), (h3, .inr (6, [v14, .int 0]))]) [0, 1, 2, 3] rfl
        have hD9 := hD.sub (ws' := [(h0, .inr (5, [.ref h2, .ref h1, .int 0, .int (-1)])), (h1, .inr (1, [v2, v3, v4, v5, v6, .int 0, .int 0, .int 0])), (h2, .inr (2, [.ref h3, .int 0, .int 0, .int 0, .long 0])), (h3, .inr (6, [v14, .int 0]))]) [0, 1, 2, 3] (by decide) rfl
        exact W.zret (v := 1) hx hb hr rfl (fun t ht hW => ⟨⟨1, (), rfl, rfl, by rw [ht]; exact hP9, hD9⟩, hS.F ht⟩) hS.2.2 dX6_readTape_96
      · skip
        exact absurd rfl c_427
    · skip
      exact absurd rfl c_426
def o_X1_copy : List Cond := [.fieldLink RX1 11 "EarTable$Grid" "firstColumns" "[I", .methodLink RX1 29 arraycopyName, .native arraycopyName, .static arraycopyName, .initialized "java/lang/System", .fieldLink RX1 15 "EarTable$Grid" "widths" "[I", .fieldLink RX1 18 "EarTable$Grid" "kinds" "[I", .fieldLink RX1 21 "EarTable$Grid" "contents" "[J", .fieldLink RX1 25 "EarTable$Grid" "sums" "[Z", .fieldLink RX1 35 "EarTable$Grid" "columns" "I", .fieldLink RX1 39 "EarTable$Grid" "lines" "I", .fieldLink RX1 42 "EarTable$Grid" "levels" "I"]
def u_X1_copy : List Cond := .code yX1_copy cX1_copy 3 none :: (o_X1_copy ++ (wsX10 ++ ([] : List Cond)))
theorem inw_X1_copy_X1 : ∀ w ∈ wsX10, w ∈ u_X1_copy := fun w h => List.mem_cons_of_mem _ (List.mem_append_right _ (List.mem_append_left _ h))
set_option maxRecDepth 20000 in
theorem good_X1_copy : u_X1_copy.all goodWord = true := by decide +kernel
set_option maxRecDepth 20000 in
theorem in_X1_copy : ∀ w ∈ u_X1_copy, w ∈ lw_tbl := ma_cons inc_X1_copy (ma_app (ma_pos o_X1_copy [141, 537, 363, 362, 75, 143, 147, 151, 156, 159, 163, 167] (by decide +kernel)) (ma_app inb_X1 ma_nil))
set_option maxHeartbeats 4000000 in
set_option maxRecDepth 100000 in
theorem c_X1_copy (l : Launch) (D : va_G) (cI cJ cZ cB : ClassId) (sz : Nat) (h0 : Nat) (h1 : Nat) (h2 : Nat) (h3 : Nat) (h4 : Nat) (h5 : Nat) (h6 : Nat) (h7 : Nat) (h8 : Nat) (h9 : Nat) (h10 : Nat) (h11 : Nat) (v0 : Value) (v1 : Value) (v2 : Value) (f3 : Nat → Int32) (f4 : Nat → Int32) (f5 : Nat → Int32) (f6 : Nat → Int32) (f7 : Nat → Int32) (f8 : Nat → Int32) (f9 : Nat → Int64) (f10 : Nat → Int64) (f11 : Nat → Int32) (f12 : Nat → Int32) : Met l yX1_copy u_X1_copy ({ frames := 1, cells := 0, slots := 0, locals := 40 }) (va_Pc [.ref h0, .ref h1] (kPre D cI cJ cZ cB [(h0, .inr (1, [.ref h3, .ref h5, .ref h7, .ref h9, .ref h11, v0, v1, v2])), (h1, .inr (1, [.ref h2, .ref h4, .ref h6, .ref h8, .ref h10, .int 0, .int 0, .int 0])), (h2, .inl (cI, 264, .inl f3)), (h3, .inl (cI, 264, .inl f4)), (h4, .inl (cI, 264, .inl f5)), (h5, .inl (cI, 264, .inl f6)), (h6, .inl (cI, 264, .inl f7)), (h7, .inl (cI, 264, .inl f8)), (h8, .inl (cJ, 264, .inr (.inl f9))), (h9, .inl (cJ, 264, .inr (.inl f10))), (h10, .inl (cZ, 30, .inl f11)), (h11, .inl (cZ, 30, .inl f12))] sz)) (va_Qv (fun (_ : (Nat → Int32) × (Nat → Int32) × (Nat → Int32) × (Nat → Int64) × (Nat → Int32)) => True) (kB D (fun (u : (Nat → Int32) × (Nat → Int32) × (Nat → Int32) × (Nat → Int64) × (Nat → Int32)) => [(h0, .inr (1, [.ref h3, .ref h5, .ref h7, .ref h9, .ref h11, .int 0, .int 0, .int 0])), (h1, .inr (1, [.ref h2, .ref h4, .ref h6, .ref h8, .ref h10, .int 0, .int 0, .int 0])), (h2, .inl (cI, 264, .inl f3)), (h3, .inl (cI, 264, .inl u.1)), (h4, .inl (cI, 264, .inl f5)), (h5, .inl (cI, 264, .inl u.2.1)), (h6, .inl (cI, 264, .inl f7)), (h7, .inl (cI, 264, .inl u.2.2.1)), (h8, .inl (cJ, 264, .inr (.inl f9))), (h9, .inl (cJ, 264, .inr (.inl u.2.2.2.1))), (h10, .inl (cZ, 30, .inl f11)), (h11, .inl (cZ, 30, .inl u.2.2.2.2))]) (va_A [(h0, .inr (1, [.ref h3, .ref h5, .ref h7, .ref h9, .ref h11, v0, v1, v2])), (h1, .inr (1, [.ref h2, .ref h4, .ref h6, .ref h8, .ref h10, .int 0, .int 0, .int 0])), (h2, .inl (cI, 264, .inl f3)), (h3, .inl (cI, 264, .inl f4)), (h4, .inl (cI, 264, .inl f5)), (h5, .inl (cI, 264, .inl f6)), (h6, .inl (cI, 264, .inl f7)), (h7, .inl (cI, 264, .inl f8)), (h8, .inl (cJ, 264, .inr (.inl f9))), (h9, .inl (cJ, 264, .inr (.inl f10))), (h10, .inl (cZ, 30, .inl f11)), (h11, .inl (cZ, 30, .inl f12))] sz)) (va_A [(h0, .inr (1, [.ref h3, .ref h5, .ref h7, .ref h9, .ref h11, v0, v1, v2])), (h1, .inr (1, [.ref h2, .ref h4, .ref h6, .ref h8, .ref h10, .int 0, .int 0, .int 0])), (h2, .inl (cI, 264, .inl f3)), (h3, .inl (cI, 264, .inl f4)), (h4, .inl (cI, 264, .inl f5)), (h5, .inl (cI, 264, .inl f6)), (h6, .inl (cI, 264, .inl f7)), (h7, .inl (cI, 264, .inl f8)), (h8, .inl (cJ, 264, .inr (.inl f9))), (h9, .inl (cJ, 264, .inr (.inl f10))), (h10, .inl (cZ, 30, .inl f11)), (h11, .inl (cZ, 30, .inl f12))] sz)) 0 0 (va_A [(h0, .inr (1, [.ref h3, .ref h5, .ref h7, .ref h9, .ref h11, v0, v1, v2])), (h1, .inr (1, [.ref h2, .ref h4, .ref h6, .ref h8, .ref h10, .int 0, .int 0, .int 0])), (h2, .inl (cI, 264, .inl f3)), (h3, .inl (cI, 264, .inl f4)), (h4, .inl (cI, 264, .inl f5)), (h5, .inl (cI, 264, .inl f6)), (h6, .inl (cI, 264, .inl f7)), (h7, .inl (cI, 264, .inl f8)), (h8, .inl (cJ, 264, .inr (.inl f9))), (h9, .inl (cJ, 264, .inr (.inl f10))), (h10, .inl (cZ, 30, .inl f11)), (h11, .inl (cZ, 30, .inl f12))] sz) := by
  refine Met.ofW (cc := cX1_copy) (maxL := 3) (ret := none) (by decide) rfl ?_
  intro p e s m args below meth c s₁ B hml hv
  obtain ⟨rfl, hsz, hP, hK, hN, hD0⟩ := hv
  have hx := B.exec
  have hb := B.bytes
  have hr := B.returns
  have hts := atoms_spec (ws := u_X1_copy) B.pre
  have hown : s.vm.findClass RX1 = some m.cls := findClass_of_methodNamed B.named
  have hlocks := B.notSynchronized
  subst hsz
  have hD := hD0.self (sz := s.heap.size)
  generalize hAe : va_A [(h0, .inr (1, [.ref h3, .ref h5, .ref h7, .ref h9, .ref h11, v0, v1, v2])), (h1, .inr (1, [.ref h2, .ref h4, .ref h6, .ref h8, .ref h10, .int 0, .int 0, .int 0])), (h2, .inl (cI, 264, .inl f3)), (h3, .inl (cI, 264, .inl f4)), (h4, .inl (cI, 264, .inl f5)), (h5, .inl (cI, 264, .inl f6)), (h6, .inl (cI, 264, .inl f7)), (h7, .inl (cI, 264, .inl f8)), (h8, .inl (cJ, 264, .inr (.inl f9))), (h9, .inl (cJ, 264, .inr (.inl f10))), (h10, .inl (cZ, 30, .inl f11)), (h11, .inl (cZ, 30, .inl f12))] s.heap.size = A at hD ⊢
  have hA : ∀ q : Nat, s.heap.size ≤ q → A q := fun q h => by rw [← hAe]; exact Or.inr h
  have hS : va_S A s.heap s.heap [] := va_S.rf
  have hP : va_P D vwCl [(h0, .inr (1, [.ref h3, .ref h5, .ref h7, .ref h9, .ref h11, v0, v1, v2])), (h1, .inr (1, [.ref h2, .ref h4, .ref h6, .ref h8, .ref h10, .int 0, .int 0, .int 0])), (h2, .inl (cI, 264, .inl f3)), (h3, .inl (cI, 264, .inl f4)), (h4, .inl (cI, 264, .inl f5)), (h5, .inl (cI, 264, .inl f6)), (h6, .inl (cI, 264, .inl f7)), (h7, .inl (cI, 264, .inl f8)), (h8, .inl (cJ, 264, .inr (.inl f9))), (h9, .inl (cJ, 264, .inr (.inl f10))), (h10, .inl (cZ, 30, .inl f11)), (h11, .inl (cZ, 30, .inl f12))] s.heap := hP
  have hl := lv_entry ([.ref h0, .ref h1]) (n := 3) (Nat.le_of_ble_eq_true rfl)
  rw [lg_entry_eq]
  generalize (lg_sl ([.ref h0, .ref h1]) ++ List.replicate (3 - (lg_sl ([.ref h0, .ref h1])).length) Slot.unset).toArray = ls at hl ⊢
  have hl : lv_has ls 3 [(0, .ref h0), (1, .ref h1)] := hl
  obtain ⟨H, hHe⟩ : ∃ H, s.heap = H := ⟨_, rfl⟩
  have hP : va_P D vwCl [(h0, .inr (1, [.ref h3, .ref h5, .ref h7, .ref h9, .ref h11, v0, v1, v2])), (h1, .inr (1, [.ref h2, .ref h4, .ref h6, .ref h8, .ref h10, .int 0, .int 0, .int 0])), (h2, .inl (cI, 264, .inl f3)), (h3, .inl (cI, 264, .inl f4)), (h4, .inl (cI, 264, .inl f5)), (h5, .inl (cI, 264, .inl f6)), (h6, .inl (cI, 264, .inl f7)), (h7, .inl (cI, 264, .inl f8)), (h8, .inl (cJ, 264, .inr (.inl f9))), (h9, .inl (cJ, 264, .inr (.inl f10))), (h10, .inl (cZ, 30, .inl f11)), (h11, .inl (cZ, 30, .inl f12))] H := by rw [← hHe]; exact hP
  have hS : va_S A s.heap H [] := by rw [← hHe]; exact hS
  refine kn_heap hHe ?_
  refine lv_aload_n hx hb dX1_copy_0 rfl (lv_at hl 1 rfl) ?_
  refine va_get (D := D) (ci := 1) (v := .ref h2) (C := RX1) (T := TX1) (N := 8) hx hb hts inw_X1_copy_X1 hown hK hP 1 rfl rfl 0 (by decide) (hts (.fieldLink RX1 11 "EarTable$Grid" "firstColumns" "[I") (by decide +kernel)) (fun _ h9 => h9) rfl dX1_copy_1 ?_
  refine lv_iconst (v := 0) hx hb dX1_copy_4 (by decide) ?_
  refine lv_aload_n hx hb dX1_copy_5 rfl (lv_at hl 0 rfl) ?_
  refine va_get (D := D) (ci := 1) (v := .ref h3) (C := RX1) (T := TX1) (N := 8) hx hb hts inw_X1_copy_X1 hown hK hP 0 rfl rfl 0 (by decide) (hts (.fieldLink RX1 11 "EarTable$Grid" "firstColumns" "[I") (by decide +kernel)) (fun _ h9 => h9) rfl dX1_copy_6 ?_
  refine lv_iconst (v := 0) hx hb dX1_copy_9 (by decide) ?_
  refine lv_sipush (v := 264) hx hb dX1_copy_10 (by decide) ?_
  refine kn_copyi (ty := .int) hx hb (hml.trans hl.1.symm) hown (hts (.methodLink RX1 29 arraycopyName) (by decide +kernel)) (hts (.native arraycopyName) (by decide +kernel)) (hts (.static arraycopyName) (by decide +kernel)) (hts (.initialized "java/lang/System") (by decide +kernel)) hK hP hD hS 2 3 0 0 rfl rfl rfl rfl rfl (by decide) (by decide) (by decide) (by decide) (by decide) (fun _ _ => rfl) (Nat.le_of_ble_eq_true rfl) (by decide +kernel) dX1_copy_13 (fun f_431 H locs hP hD hS => ?_)
  have hP : va_P D vwCl [(h0, .inr (1, [.ref h3, .ref h5, .ref h7, .ref h9, .ref h11, v0, v1, v2])), (h1, .inr (1, [.ref h2, .ref h4, .ref h6, .ref h8, .ref h10, .int 0, .int 0, .int 0])), (h2, .inl (cI, 264, .inl f3)), (h3, .inl (cI, 264, .inl f_431)), (h4, .inl (cI, 264, .inl f5)), (h5, .inl (cI, 264, .inl f6)), (h6, .inl (cI, 264, .inl f7)), (h7, .inl (cI, 264, .inl f8)), (h8, .inl (cJ, 264, .inr (.inl f9))), (h9, .inl (cJ, 264, .inr (.inl f10))), (h10, .inl (cZ, 30, .inl f11)), (h11, .inl (cZ, 30, .inl f12))] H := hP
  have hD : va_D A [(h0, .inr (1, [.ref h3, .ref h5, .ref h7, .ref h9, .ref h11, v0, v1, v2])), (h1, .inr (1, [.ref h2, .ref h4, .ref h6, .ref h8, .ref h10, .int 0, .int 0, .int 0])), (h2, .inl (cI, 264, .inl f3)), (h3, .inl (cI, 264, .inl f_431)), (h4, .inl (cI, 264, .inl f5)), (h5, .inl (cI, 264, .inl f6)), (h6, .inl (cI, 264, .inl f7)), (h7, .inl (cI, 264, .inl f8)), (h8, .inl (cJ, 264, .inr (.inl f9))), (h9, .inl (cJ, 264, .inr (.inl f10))), (h10, .inl (cZ, 30, .inl f11)), (h11, .inl (cZ, 30, .inl f12))] := hD
  refine lv_aload_n hx hb dX1_copy_16 rfl (lv_at hl 1 rfl) ?_
  refine va_get (D := D) (ci := 1) (v := .ref h4) (C := RX1) (T := TX1) (N := 8) hx hb hts inw_X1_copy_X1 hown hK hP 1 rfl rfl 1 (by decide) (hts (.fieldLink RX1 15 "EarTable$Grid" "widths" "[I") (by decide +kernel)) (fun _ h9 => h9) rfl dX1_copy_17 ?_
  refine lv_iconst (v := 0) hx hb dX1_copy_20 (by decide) ?_
  refine lv_aload_n hx hb dX1_copy_21 rfl (lv_at hl 0 rfl) ?_
  refine va_get (D := D) (ci := 1) (v := .ref h5) (C := RX1) (T := TX1) (N := 8) hx hb hts inw_X1_copy_X1 hown hK hP 0 rfl rfl 1 (by decide) (hts (.fieldLink RX1 15 "EarTable$Grid" "widths" "[I") (by decide +kernel)) (fun _ h9 => h9) rfl dX1_copy_22 ?_
  refine lv_iconst (v := 0) hx hb dX1_copy_25 (by decide) ?_
  refine lv_sipush (v := 264) hx hb dX1_copy_26 (by decide) ?_
  refine kn_copyi (ty := .int) hx hb (hml.trans hl.1.symm) hown (hts (.methodLink RX1 29 arraycopyName) (by decide +kernel)) (hts (.native arraycopyName) (by decide +kernel)) (hts (.static arraycopyName) (by decide +kernel)) (hts (.initialized "java/lang/System") (by decide +kernel)) hK hP hD hS 4 5 0 0 rfl rfl rfl rfl rfl (by decide) (by decide) (by decide) (by decide) (by decide) (fun _ _ => rfl) (Nat.le_of_ble_eq_true rfl) (by decide +kernel) dX1_copy_29 (fun f_432 H locs hP hD hS => ?_)
  have hP : va_P D vwCl [(h0, .inr (1, [.ref h3, .ref h5, .ref h7, .ref h9, .ref h11, v0, v1, v2])), (h1, .inr (1, [.ref h2, .ref h4, .ref h6, .ref h8, .ref h10, .int 0, .int 0, .int 0])), (h2, .inl (cI, 264, .inl f3)), (h3, .inl (cI, 264, .inl f_431)), (h4, .inl (cI, 264, .inl f5)), (h5, .inl (cI, 264, .inl f_432)), (h6, .inl (cI, 264, .inl f7)), (h7, .inl (cI, 264, .inl f8)), (h8, .inl (cJ, 264, .inr (.inl f9))), (h9, .inl (cJ, 264, .inr (.inl f10))), (h10, .inl (cZ, 30, .inl f11)), (h11, .inl (cZ, 30, .inl f12))] H := hP
  have hD : va_D A [(h0, .inr (1, [.ref h3, .ref h5, .ref h7, .ref h9, .ref h11, v0, v1, v2])), (h1, .inr (1, [.ref h2, .ref h4, .ref h6, .ref h8, .ref h10, .int 0, .int 0, .int 0])), (h2, .inl (cI, 264, .inl f3)), (h3, .inl (cI, 264, .inl f_431)), (h4, .inl (cI, 264, .inl f5)), (h5, .inl (cI, 264, .inl f_432)), (h6, .inl (cI, 264, .inl f7)), (h7, .inl (cI, 264, .inl f8)), (h8, .inl (cJ, 264, .inr (.inl f9))), (h9, .inl (cJ, 264, .inr (.inl f10))), (h10, .inl (cZ, 30, .inl f11)), (h11, .inl (cZ, 30, .inl f12))] := hD
  refine lv_aload_n hx hb dX1_copy_32 rfl (lv_at hl 1 rfl) ?_
  refine va_get (D := D) (ci := 1) (v := .ref h6) (C := RX1) (T := TX1) (N := 8) hx hb hts inw_X1_copy_X1 hown hK hP 1 rfl rfl 2 (by decide) (hts (.fieldLink RX1 18 "EarTable$Grid" "kinds" "[I") (by decide +kernel)) (fun _ h9 => h9) rfl dX1_copy_33 ?_
  refine lv_iconst (v := 0) hx hb dX1_copy_36 (by decide) ?_
  refine lv_aload_n hx hb dX1_copy_37 rfl (lv_at hl 0 rfl) ?_
  refine va_get (D := D) (ci := 1) (v := .ref h7) (C := RX1) (T := TX1) (N := 8) hx hb hts inw_X1_copy_X1 hown hK hP 0 rfl rfl 2 (by decide) (hts (.fieldLink RX1 18 "EarTable$Grid" "kinds" "[I") (by decide +kernel)) (fun _ h9 => h9) rfl dX1_copy_38 ?_
  refine lv_iconst (v := 0) hx hb dX1_copy_41 (by decide) ?_
  refine lv_sipush (v := 264) hx hb dX1_copy_42 (by decide) ?_
  refine kn_copyi (ty := .int) hx hb (hml.trans hl.1.symm) hown (hts (.methodLink RX1 29 arraycopyName) (by decide +kernel)) (hts (.native arraycopyName) (by decide +kernel)) (hts (.static arraycopyName) (by decide +kernel)) (hts (.initialized "java/lang/System") (by decide +kernel)) hK hP hD hS 6 7 0 0 rfl rfl rfl rfl rfl (by decide) (by decide) (by decide) (by decide) (by decide) (fun _ _ => rfl) (Nat.le_of_ble_eq_true rfl) (by decide +kernel) dX1_copy_45 (fun f_433 H locs hP hD hS => ?_)
  have hP : va_P D vwCl [(h0, .inr (1, [.ref h3, .ref h5, .ref h7, .ref h9, .ref h11, v0, v1, v2])), (h1, .inr (1, [.ref h2, .ref h4, .ref h6, .ref h8, .ref h10, .int 0, .int 0, .int 0])), (h2, .inl (cI, 264, .inl f3)), (h3, .inl (cI, 264, .inl f_431)), (h4, .inl (cI, 264, .inl f5)), (h5, .inl (cI, 264, .inl f_432)), (h6, .inl (cI, 264, .inl f7)), (h7, .inl (cI, 264, .inl f_433)), (h8, .inl (cJ, 264, .inr (.inl f9))), (h9, .inl (cJ, 264, .inr (.inl f10))), (h10, .inl (cZ, 30, .inl f11)), (h11, .inl (cZ, 30, .inl f12))] H := hP
  have hD : va_D A [(h0, .inr (1, [.ref h3, .ref h5, .ref h7, .ref h9, .ref h11, v0, v1, v2])), (h1, .inr (1, [.ref h2, .ref h4, .ref h6, .ref h8, .ref h10, .int 0, .int 0, .int 0])), (h2, .inl (cI, 264, .inl f3)), (h3, .inl (cI, 264, .inl f_431)), (h4, .inl (cI, 264, .inl f5)), (h5, .inl (cI, 264, .inl f_432)), (h6, .inl (cI, 264, .inl f7)), (h7, .inl (cI, 264, .inl f_433)), (h8, .inl (cJ, 264, .inr (.inl f9))), (h9, .inl (cJ, 264, .inr (.inl f10))), (h10, .inl (cZ, 30, .inl f11)), (h11, .inl (cZ, 30, .inl f12))] := hD
  refine lv_aload_n hx hb dX1_copy_48 rfl (lv_at hl 1 rfl) ?_
  refine va_get (D := D) (ci := 1) (v := .ref h8) (C := RX1) (T := TX1) (N := 8) hx hb hts inw_X1_copy_X1 hown hK hP 1 rfl rfl 3 (by decide) (hts (.fieldLink RX1 21 "EarTable$Grid" "contents" "[J") (by decide +kernel)) (fun _ h9 => h9) rfl dX1_copy_49 ?_
  refine lv_iconst (v := 0) hx hb dX1_copy_52 (by decide) ?_
  refine lv_aload_n hx hb dX1_copy_53 rfl (lv_at hl 0 rfl) ?_
  refine va_get (D := D) (ci := 1) (v := .ref h9) (C := RX1) (T := TX1) (N := 8) hx hb hts inw_X1_copy_X1 hown hK hP 0 rfl rfl 3 (by decide) (hts (.fieldLink RX1 21 "EarTable$Grid" "contents" "[J") (by decide +kernel)) (fun _ h9 => h9) rfl dX1_copy_54 ?_
  refine lv_iconst (v := 0) hx hb dX1_copy_57 (by decide) ?_
  refine lv_sipush (v := 264) hx hb dX1_copy_58 (by decide) ?_
  refine kn_copyl (ty := .long) hx hb (hml.trans hl.1.symm) hown (hts (.methodLink RX1 29 arraycopyName) (by decide +kernel)) (hts (.native arraycopyName) (by decide +kernel)) (hts (.static arraycopyName) (by decide +kernel)) (hts (.initialized "java/lang/System") (by decide +kernel)) hK hP hD hS 8 9 1 1 rfl rfl rfl rfl rfl (by decide) (by decide) (by decide) (by decide) (by decide) (fun _ _ => rfl) (Nat.le_of_ble_eq_true rfl) (by decide +kernel) dX1_copy_61 (fun f_434 H locs hP hD hS => ?_)
  have hP : va_P D vwCl [(h0, .inr (1, [.ref h3, .ref h5, .ref h7, .ref h9, .ref h11, v0, v1, v2])), (h1, .inr (1, [.ref h2, .ref h4, .ref h6, .ref h8, .ref h10, .int 0, .int 0, .int 0])), (h2, .inl (cI, 264, .inl f3)), (h3, .inl (cI, 264, .inl f_431)), (h4, .inl (cI, 264, .inl f5)), (h5, .inl (cI, 264, .inl f_432)), (h6, .inl (cI, 264, .inl f7)), (h7, .inl (cI, 264, .inl f_433)), (h8, .inl (cJ, 264, .inr (.inl f9))), (h9, .inl (cJ, 264, .inr (.inl f_434))), (h10, .inl (cZ, 30, .inl f11)), (h11, .inl (cZ, 30, .inl f12))] H := hP
  have hD : va_D A [(h0, .inr (1, [.ref h3, .ref h5, .ref h7, .ref h9, .ref h11, v0, v1, v2])), (h1, .inr (1, [.ref h2, .ref h4, .ref h6, .ref h8, .ref h10, .int 0, .int 0, .int 0])), (h2, .inl (cI, 264, .inl f3)), (h3, .inl (cI, 264, .inl f_431)), (h4, .inl (cI, 264, .inl f5)), (h5, .inl (cI, 264, .inl f_432)), (h6, .inl (cI, 264, .inl f7)), (h7, .inl (cI, 264, .inl f_433)), (h8, .inl (cJ, 264, .inr (.inl f9))), (h9, .inl (cJ, 264, .inr (.inl f_434))), (h10, .inl (cZ, 30, .inl f11)), (h11, .inl (cZ, 30, .inl f12))] := hD
  refine lv_iconst (v := 0) hx hb dX1_copy_64 (by decide) ?_
  refine lv_istore_n (lv' := [(2, .int 0), (0, .ref h0), (1, .ref h1)]) hx hb dX1_copy_65 rfl hl (by decide) rfl (fun ls hl => ?_)
  refine lv_iload_n hx hb dX1_copy_66 rfl (lv_at hl 0 rfl) ?_
  refine lv_bipush (v := 30) hx hb dX1_copy_67 (by decide) ?_
  refine lv_icmp_ge (tgt := 90) hx hb dX1_copy_69 (by decide) (fun c_435 => ?_) (fun c_435 => ?_)
  · skip
    exact absurd c_435 (by decide)
  · skip
    refine lv_aload_n hx hb dX1_copy_72 rfl (lv_at hl 1 rfl) ?_
    refine va_get (D := D) (ci := 1) (v := .ref h11) (C := RX1) (T := TX1) (N := 8) hx hb hts inw_X1_copy_X1 hown hK hP 0 rfl rfl 4 (by decide) (hts (.fieldLink RX1 25 "EarTable$Grid" "sums" "[Z") (by decide +kernel)) (fun _ h9 => h9) rfl dX1_copy_73 ?_
    refine lv_iload_n hx hb dX1_copy_76 rfl (lv_at hl 0 rfl) ?_
    refine lv_aload_n hx hb dX1_copy_77 rfl (lv_at hl 2 rfl) ?_
    refine va_get (D := D) (ci := 1) (v := .ref h10) (C := RX1) (T := TX1) (N := 8) hx hb hts inw_X1_copy_X1 hown hK hP 1 rfl rfl 4 (by decide) (hts (.fieldLink RX1 25 "EarTable$Grid" "sums" "[Z") (by decide +kernel)) (fun _ h9 => h9) rfl dX1_copy_78 ?_
    refine lv_iload_n hx hb dX1_copy_81 rfl (lv_at hl 0 rfl) ?_
    refine va_zald hx hb hK hP 10 2 rfl rfl (kn_in (by decide)) dX1_copy_82 ?_
    refine lv_topi (fun z_436 _ => ?_)
    refine kn_zast hx hb hK hP hD hS 11 2 rfl rfl (kn_in (by decide)) dX1_copy_83 (fun f_437 H locs hP hD hS => ?_)
    have hP : va_P D vwCl [(h0, .inr (1, [.ref h3, .ref h5, .ref h7, .ref h9, .ref h11, v0, v1, v2])), (h1, .inr (1, [.ref h2, .ref h4, .ref h6, .ref h8, .ref h10, .int 0, .int 0, .int 0])), (h2, .inl (cI, 264, .inl f3)), (h3, .inl (cI, 264, .inl f_431)), (h4, .inl (cI, 264, .inl f5)), (h5, .inl (cI, 264, .inl f_432)), (h6, .inl (cI, 264, .inl f7)), (h7, .inl (cI, 264, .inl f_433)), (h8, .inl (cJ, 264, .inr (.inl f9))), (h9, .inl (cJ, 264, .inr (.inl f_434))), (h10, .inl (cZ, 30, .inl f11)), (h11, .inl (cZ, 30, .inl f_437))] H := hP
    have hD : va_D A [(h0, .inr (1, [.ref h3, .ref h5, .ref h7, .ref h9, .ref h11, v0, v1, v2])), (h1, .inr (1, [.ref h2, .ref h4, .ref h6, .ref h8, .ref h10, .int 0, .int 0, .int 0])), (h2, .inl (cI, 264, .inl f3)), (h3, .inl (cI, 264, .inl f_431)), (h4, .inl (cI, 264, .inl f5)), (h5, .inl (cI, 264, .inl f_432)), (h6, .inl (cI, 264, .inl f7)), (h7, .inl (cI, 264, .inl f_433)), (h8, .inl (cJ, 264, .inr (.inl f9))), (h9, .inl (cJ, 264, .inr (.inl f_434))), (h10, .inl (cZ, 30, .inl f11)), (h11, .inl (cZ, 30, .inl f_437))] := hD
    refine lv_iinc (v := 1) (lv' := [(2, .int 1), (0, .ref h0), (1, .ref h1)]) hx hb dX1_copy_84 hl (k := 0) rfl (by decide) (by decide) rfl (fun ls hl => ?_)
    refine lv_goto (tgt := 66) hx hb dX1_copy_87 (by decide) ?_
    refine lv_iload_n hx hb dX1_copy_66 rfl (lv_at hl 0 rfl) ?_
    refine lv_bipush (v := 30) hx hb dX1_copy_67 (by decide) ?_
    refine lv_icmp_ge (tgt := 90) hx hb dX1_copy_69 (by decide) (fun c_438 => ?_) (fun c_438 => ?_)
    · skip
      exact absurd c_438 (by decide)
    · skip
      refine lv_aload_n hx hb dX1_copy_72 rfl (lv_at hl 1 rfl) ?_
      refine va_get (D := D) (ci := 1) (v := .ref h11) (C := RX1) (T := TX1) (N := 8) hx hb hts inw_X1_copy_X1 hown hK hP 0 rfl rfl 4 (by decide) (hts (.fieldLink RX1 25 "EarTable$Grid" "sums" "[Z") (by decide +kernel)) (fun _ h9 => h9) rfl dX1_copy_73 ?_
      refine lv_iload_n hx hb dX1_copy_76 rfl (lv_at hl 0 rfl) ?_
      refine lv_aload_n hx hb dX1_copy_77 rfl (lv_at hl 2 rfl) ?_
      refine va_get (D := D) (ci := 1) (v := .ref h10) (C := RX1) (T := TX1) (N := 8) hx hb hts inw_X1_copy_X1 hown hK hP 1 rfl rfl 4 (by decide) (hts (.fieldLink RX1 25 "EarTable$Grid" "sums" "[Z") (by decide +kernel)) (fun _ h9 => h9) rfl dX1_copy_78 ?_
      refine lv_iload_n hx hb dX1_copy_81 rfl (lv_at hl 0 rfl) ?_
      refine va_zald hx hb hK hP 10 2 rfl rfl (kn_in (by decide)) dX1_copy_82 ?_
      refine lv_topi (fun z_439 _ => ?_)
      refine kn_zast hx hb hK hP hD hS 11 2 rfl rfl (kn_in (by decide)) dX1_copy_83 (fun f_440 H locs hP hD hS => ?_)
      have hP : va_P D vwCl [(h0, .inr (1, [.ref h3, .ref h5, .ref h7, .ref h9, .ref h11, v0, v1, v2])), (h1, .inr (1, [.ref h2, .ref h4, .ref h6, .ref h8, .ref h10, .int 0, .int 0, .int 0])), (h2, .inl (cI, 264, .inl f3)), (h3, .inl (cI, 264, .inl f_431)), (h4, .inl (cI, 264, .inl f5)), (h5, .inl (cI, 264, .inl f_432)), (h6, .inl (cI, 264, .inl f7)), (h7, .inl (cI, 264, .inl f_433)), (h8, .inl (cJ, 264, .inr (.inl f9))), (h9, .inl (cJ, 264, .inr (.inl f_434))), (h10, .inl (cZ, 30, .inl f11)), (h11, .inl (cZ, 30, .inl f_440))] H := hP
      have hD : va_D A [(h0, .inr (1, [.ref h3, .ref h5, .ref h7, .ref h9, .ref h11, v0, v1, v2])), (h1, .inr (1, [.ref h2, .ref h4, .ref h6, .ref h8, .ref h10, .int 0, .int 0, .int 0])), (h2, .inl (cI, 264, .inl f3)), (h3, .inl (cI, 264, .inl f_431)), (h4, .inl (cI, 264, .inl f5)), (h5, .inl (cI, 264, .inl f_432)), (h6, .inl (cI, 264, .inl f7)), (h7, .inl (cI, 264, .inl f_433)), (h8, .inl (cJ, 264, .inr (.inl f9))), (h9, .inl (cJ, 264, .inr (.inl f_434))), (h10, .inl (cZ, 30, .inl f11)), (h11, .inl (cZ, 30, .inl f_440))] := hD
      refine lv_iinc (v := 2) (lv' := [(2, .int 2), (0, .ref h0), (1, .ref h1)]) hx hb dX1_copy_84 hl (k := 0) rfl (by decide) (by decide) rfl (fun ls hl => ?_)
      refine lv_goto (tgt := 66) hx hb dX1_copy_87 (by decide) ?_
      refine lv_iload_n hx hb dX1_copy_66 rfl (lv_at hl 0 rfl) ?_
      refine lv_bipush (v := 30) hx hb dX1_copy_67 (by decide) ?_
      refine lv_icmp_ge (tgt := 90) hx hb dX1_copy_69 (by decide) (fun c_441 => ?_) (fun c_441 => ?_)
      · skip
        exact absurd c_441 (by decide)
      · skip
        refine lv_aload_n hx hb dX1_copy_72 rfl (lv_at hl 1 rfl) ?_
        refine va_get (D := D) (ci := 1) (v := .ref h11) (C := RX1) (T := TX1) (N := 8) hx hb hts inw_X1_copy_X1 hown hK hP 0 rfl rfl 4 (by decide) (hts (.fieldLink RX1 25 "EarTable$Grid" "sums" "[Z") (by decide +kernel)) (fun _ h9 => h9) rfl dX1_copy_73 ?_
        refine lv_iload_n hx hb dX1_copy_76 rfl (lv_at hl 0 rfl) ?_
        refine lv_aload_n hx hb dX1_copy_77 rfl (lv_at hl 2 rfl) ?_
        refine va_get (D := D) (ci := 1) (v := .ref h10) (C := RX1) (T := TX1) (N := 8) hx hb hts inw_X1_copy_X1 hown hK hP 1 rfl rfl 4 (by decide) (hts (.fieldLink RX1 25 "EarTable$Grid" "sums" "[Z") (by decide +kernel)) (fun _ h9 => h9) rfl dX1_copy_78 ?_
        refine lv_iload_n hx hb dX1_copy_81 rfl (lv_at hl 0 rfl) ?_
        refine va_zald hx hb hK hP 10 2 rfl rfl (kn_in (by decide)) dX1_copy_82 ?_
        refine lv_topi (fun z_442 _ => ?_)
        refine kn_zast hx hb hK hP hD hS 11 2 rfl rfl (kn_in (by decide)) dX1_copy_83 (fun f_443 H locs hP hD hS => ?_)
        have hP : va_P D vwCl [(h0, .inr (1, [.ref h3, .ref h5, .ref h7, .ref h9, .ref h11, v0, v1, v2])), (h1, .inr (1, [.ref h2, .ref h4, .ref h6, .ref h8, .ref h10, .int 0, .int 0, .int 0])), (h2, .inl (cI, 264, .inl f3)), (h3, .inl (cI, 264, .inl f_431)), (h4, .inl (cI, 264, .inl f5)), (h5, .inl (cI, 264, .inl f_432)), (h6, .inl (cI, 264, .inl f7)), (h7, .inl (cI, 264, .inl f_433)), (h8, .inl (cJ, 264, .inr (.inl f9))), (h9, .inl (cJ, 264, .inr (.inl f_434))), (h10, .inl (cZ, 30, .inl f11)), (h11, .inl (cZ, 30, .inl f_443))] H := hP
        have hD : va_D A [(h0, .inr (1, [.ref h3, .ref h5, .ref h7, .ref h9, .ref h11, v0, v1, v2])), (h1, .inr (1, [.ref h2, .ref h4, .ref h6, .ref h8, .ref h10, .int 0, .int 0, .int 0])), (h2, .inl (cI, 264, .inl f3)), (h3, .inl (cI, 264, .inl f_431)), (h4, .inl (cI, 264, .inl f5)), (h5, .inl (cI, 264, .inl f_432)), (h6, .inl (cI, 264, .inl f7)), (h7, .inl (cI, 264, .inl f_433)), (h8, .inl (cJ, 264, .inr (.inl f9))), (h9, .inl (cJ, 264, .inr (.inl f_434))), (h10, .inl (cZ, 30, .inl f11)), (h11, .inl (cZ, 30, .inl f_443))] := hD
        refine lv_iinc (v := 3) (lv' := [(2, .int 3), (0, .ref h0), (1, .ref h1)]) hx hb dX1_copy_84 hl (k := 0) rfl (by decide) (by decide) rfl (fun ls hl => ?_)
        refine lv_goto (tgt := 66) hx hb dX1_copy_87 (by decide) ?_
        refine lv_iload_n hx hb dX1_copy_66 rfl (lv_at hl 0 rfl) ?_
        refine lv_bipush (v := 30) hx hb dX1_copy_67 (by decide) ?_
        refine lv_icmp_ge (tgt := 90) hx hb dX1_copy_69 (by decide) (fun c_444 => ?_) (fun c_444 => ?_)
        · skip
          exact absurd c_444 (by decide)
        · skip
          refine lv_aload_n hx hb dX1_copy_72 rfl (lv_at hl 1 rfl) ?_
          refine va_get (D := D) (ci := 1) (v := .ref h11) (C := RX1) (T := TX1) (N := 8) hx hb hts inw_X1_copy_X1 hown hK hP 0 rfl rfl 4 (by decide) (hts (.fieldLink RX1 25 "EarTable$Grid" "sums" "[Z") (by decide +kernel)) (fun _ h9 => h9) rfl dX1_copy_73 ?_
          refine lv_iload_n hx hb dX1_copy_76 rfl (lv_at hl 0 rfl) ?_
          refine lv_aload_n hx hb dX1_copy_77 rfl (lv_at hl 2 rfl) ?_
          refine va_get (D := D) (ci := 1) (v := .ref h10) (C := RX1) (T := TX1) (N := 8) hx hb hts inw_X1_copy_X1 hown hK hP 1 rfl rfl 4 (by decide) (hts (.fieldLink RX1 25 "EarTable$Grid" "sums" "[Z") (by decide +kernel)) (fun _ h9 => h9) rfl dX1_copy_78 ?_
          refine lv_iload_n hx hb dX1_copy_81 rfl (lv_at hl 0 rfl) ?_
          refine va_zald hx hb hK hP 10 2 rfl rfl (kn_in (by decide)) dX1_copy_82 ?_
          refine lv_topi (fun z_445 _ => ?_)
          refine kn_zast hx hb hK hP hD hS 11 2 rfl rfl (kn_in (by decide)) dX1_copy_83 (fun f_446 H locs hP hD hS => ?_)
          have hP : va_P D vwCl [(h0, .inr (1, [.ref h3, .ref h5, .ref h7, .ref h9, .ref h11, v0, v1, v2])), (h1, .inr (1, [.ref h2, .ref h4, .ref h6, .ref h8, .ref h10, .int 0, .int 0, .int 0])), (h2, .inl (cI, 264, .inl f3)), (h3, .inl (cI, 264, .inl f_431)), (h4, .inl (cI, 264, .inl f5)), (h5, .inl (cI, 264, .inl f_432)), (h6, .inl (cI, 264, .inl f7)), (h7, .inl (cI, 264, .inl f_433)), (h8, .inl (cJ, 264, .inr (.inl f9))), (h9, .inl (cJ, 264, .inr (.inl f_434))), (h10, .inl (cZ, 30, .inl f11)), (h11, .inl (cZ, 30, .inl f_446))] H := hP
          have hD : va_D A [(h0, .inr (1, [.ref h3, .ref h5, .ref h7, .ref h9, .ref h11, v0, v1, v2])), (h1, .inr (1, [.ref h2, .ref h4, .ref h6, .ref h8, .ref h10, .int 0, .int 0, .int 0])), (h2, .inl (cI, 264, .inl f3)), (h3, .inl (cI, 264, .inl f_431)), (h4, .inl (cI, 264, .inl f5)), (h5, .inl (cI, 264, .inl f_432)), (h6, .inl (cI, 264, .inl f7)), (h7, .inl (cI, 264, .inl f_433)), (h8, .inl (cJ, 264, .inr (.inl f9))), (h9, .inl (cJ, 264, .inr (.inl f_434))), (h10, .inl (cZ, 30, .inl f11)), (h11, .inl (cZ, 30, .inl f_446))] := hD
          refine lv_iinc (v := 4) (lv' := [(2, .int 4), (0, .ref h0), (1, .ref h1)]) hx hb dX1_copy_84 hl (k := 0) rfl (by decide) (by decide) rfl (fun ls hl => ?_)
          refine lv_goto (tgt := 66) hx hb dX1_copy_87 (by decide) ?_
          refine lv_iload_n hx hb dX1_copy_66 rfl (lv_at hl 0 rfl) ?_
          refine lv_bipush (v := 30) hx hb dX1_copy_67 (by decide) ?_
          refine lv_icmp_ge (tgt := 90) hx hb dX1_copy_69 (by decide) (fun c_447 => ?_) (fun c_447 => ?_)
          · skip
            exact absurd c_447 (by decide)
          · skip
            refine lv_aload_n hx hb dX1_copy_72 rfl (lv_at hl 1 rfl) ?_
            refine va_get (D := D) (ci := 1) (v := .ref h11) (C := RX1) (T := TX1) (N := 8) hx hb hts inw_X1_copy_X1 hown hK hP 0 rfl rfl 4 (by decide) (hts (.fieldLink RX1 25 "EarTable$Grid" "sums" "[Z") (by decide +kernel)) (fun _ h9 => h9) rfl dX1_copy_73 ?_
            refine lv_iload_n hx hb dX1_copy_76 rfl (lv_at hl 0 rfl) ?_
            refine lv_aload_n hx hb dX1_copy_77 rfl (lv_at hl 2 rfl) ?_
            refine va_get (D := D) (ci := 1) (v := .ref h10) (C := RX1) (T := TX1) (N := 8) hx hb hts inw_X1_copy_X1 hown hK hP 1 rfl rfl 4 (by decide) (hts (.fieldLink RX1 25 "EarTable$Grid" "sums" "[Z") (by decide +kernel)) (fun _ h9 => h9) rfl dX1_copy_78 ?_
            refine lv_iload_n hx hb dX1_copy_81 rfl (lv_at hl 0 rfl) ?_
            refine va_zald hx hb hK hP 10 2 rfl rfl (kn_in (by decide)) dX1_copy_82 ?_
            refine lv_topi (fun z_448 _ => ?_)
            refine kn_zast hx hb hK hP hD hS 11 2 rfl rfl (kn_in (by decide)) dX1_copy_83 (fun f_449 H locs hP hD hS => ?_)
            have hP : va_P D vwCl [(h0, .inr (1, [.ref h3, .ref h5, .ref h7, .ref h9, .ref h11, v0, v1, v2])), (h1, .inr (1, [.ref h2, .ref h4, .ref h6, .ref h8, .ref h10, .int 0, .int 0, .int 0])), (h2, .inl (cI, 264, .inl f3)), (h3, .inl (cI, 264, .inl f_431)), (h4, .inl (cI, 264, .inl f5)), (h5, .inl (cI, 264, .inl f_432)), (h6, .inl (cI, 264, .inl f7)), (h7, .inl (cI, 264, .inl f_433)), (h8, .inl (cJ, 264, .inr (.inl f9))), (h9, .inl (cJ, 264, .inr (.inl f_434))), (h10, .inl (cZ, 30, .inl f11)), (h11, .inl (cZ, 30, .inl f_449))] H := hP
            have hD : va_D A [(h0, .inr (1, [.ref h3, .ref h5, .ref h7, .ref h9, .ref h11, v0, v1, v2])), (h1, .inr (1, [.ref h2, .ref h4, .ref h6, .ref h8, .ref h10, .int 0, .int 0, .int 0])), (h2, .inl (cI, 264, .inl f3)), (h3, .inl (cI, 264, .inl f_431)), (h4, .inl (cI, 264, .inl f5)), (h5, .inl (cI, 264, .inl f_432)), (h6, .inl (cI, 264, .inl f7)), (h7, .inl (cI, 264, .inl f_433)), (h8, .inl (cJ, 264, .inr (.inl f9))), (h9, .inl (cJ, 264, .inr (.inl f_434))), (h10, .inl (cZ, 30, .inl f11)), (h11, .inl (cZ, 30, .inl f_449))] := hD
            refine lv_iinc (v := 5) (lv' := [(2, .int 5), (0, .ref h0), (1, .ref h1)]) hx hb dX1_copy_84 hl (k := 0) rfl (by decide) (by decide) rfl (fun ls hl => ?_)
            refine lv_goto (tgt := 66) hx hb dX1_copy_87 (by decide) ?_
            refine lv_iload_n hx hb dX1_copy_66 rfl (lv_at hl 0 rfl) ?_
            refine lv_bipush (v := 30) hx hb dX1_copy_67 (by decide) ?_
            refine lv_icmp_ge (tgt := 90) hx hb dX1_copy_69 (by decide) (fun c_450 => ?_) (fun c_450 => ?_)
            · skip
              exact absurd c_450 (by decide)
            · skip
              refine lv_aload_n hx hb dX1_copy_72 rfl (lv_at hl 1 rfl) ?_
              refine va_get (D := D) (ci := 1) (v := .ref h11) (C := RX1) (T := TX1) (N := 8) hx hb hts inw_X1_copy_X1 hown hK hP 0 rfl rfl 4 (by decide) (hts (.fieldLink RX1 25 "EarTable$Grid" "sums" "[Z") (by decide +kernel)) (fun _ h9 => h9) rfl dX1_copy_73 ?_
              refine lv_iload_n hx hb dX1_copy_76 rfl (lv_at hl 0 rfl) ?_
              refine lv_aload_n hx hb dX1_copy_77 rfl (lv_at hl 2 rfl) ?_
              refine va_get (D := D) (ci := 1) (v := .ref h10) (C := RX1) (T := TX1) (N := 8) hx hb hts inw_X1_copy_X1 hown hK hP 1 rfl rfl 4 (by decide) (hts (.fieldLink RX1 25 "EarTable$Grid" "sums" "[Z") (by decide +kernel)) (fun _ h9 => h9) rfl dX1_copy_78 ?_
              refine lv_iload_n hx hb dX1_copy_81 rfl (lv_at hl 0 rfl) ?_
              refine va_zald hx hb hK hP 10 2 rfl rfl (kn_in (by decide)) dX1_copy_82 ?_
              refine lv_topi (fun z_451 _ => ?_)
              refine kn_zast hx hb hK hP hD hS 11 2 rfl rfl (kn_in (by decide)) dX1_copy_83 (fun f_452 H locs hP hD hS => ?_)
              have hP : va_P D vwCl [(h0, .inr (1, [.ref h3, .ref h5, .ref h7, .ref h9, .ref h11, v0, v1, v2])), (h1, .inr (1, [.ref h2, .ref h4, .ref h6, .ref h8, .ref h10, .int 0, .int 0, .int 0])), (h2, .inl (cI, 264, .inl f3)), (h3, .inl (cI, 264, .inl f_431)), (h4, .inl (cI, 264, .inl f5)), (h5, .inl (cI, 264, .inl f_432)), (h6, .inl (cI, 264, .inl f7)), (h7, .inl (cI, 264, .inl f_433)), (h8, .inl (cJ, 264, .inr (.inl f9))), (h9, .inl (cJ, 264, .inr (.inl f_434))), (h10, .inl (cZ, 30, .inl f11)), (h11, .inl (cZ, 30, .inl f_452))] H := hP
              have hD : va_D A [(h0, .inr (1, [.ref h3, .ref h5, .ref h7, .ref h9, .ref h11, v0, v1, v2])), (h1, .inr (1, [.ref h2, .ref h4, .ref h6, .ref h8, .ref h10, .int 0, .int 0, .int 0])), (h2, .inl (cI, 264, .inl f3)), (h3, .inl (cI, 264, .inl f_431)), (h4, .inl (cI, 264, .inl f5)), (h5, .inl (cI, 264, .inl f_432)), (h6, .inl (cI, 264, .inl f7)), (h7, .inl (cI, 264, .inl f_433)), (h8, .inl (cJ, 264, .inr (.inl f9))), (h9, .inl (cJ, 264, .inr (.inl f_434))), (h10, .inl (cZ, 30, .inl f11)), (h11, .inl (cZ, 30, .inl f_452))] := hD
              refine lv_iinc (v := 6) (lv' := [(2, .int 6), (0, .ref h0), (1, .ref h1)]) hx hb dX1_copy_84 hl (k := 0) rfl (by decide) (by decide) rfl (fun ls hl => ?_)
              refine lv_goto (tgt := 66) hx hb dX1_copy_87 (by decide) ?_
              refine lv_iload_n hx hb dX1_copy_66 rfl (lv_at hl 0 rfl) ?_
              refine lv_bipush (v := 30) hx hb dX1_copy_67 (by decide) ?_
              refine lv_icmp_ge (tgt := 90) hx hb dX1_copy_69 (by decide) (fun c_453 => ?_) (fun c_453 => ?_)
              · skip
                exact absurd c_453 (by decide)
              · skip
                refine lv_aload_n hx hb dX1_copy_72 rfl (lv_at hl 1 rfl) ?_
                refine va_get (D := D) (ci := 1) (v := .ref h11) (C := RX1) (T := TX1) (N := 8) hx hb hts inw_X1_copy_X1 hown hK hP 0 rfl rfl 4 (by decide) (hts (.fieldLink RX1 25 "EarTable$Grid" "sums" "[Z") (by decide +kernel)) (fun _ h9 => h9) rfl dX1_copy_73 ?_
                refine lv_iload_n hx hb dX1_copy_76 rfl (lv_at hl 0 rfl) ?_
                refine lv_aload_n hx hb dX1_copy_77 rfl (lv_at hl 2 rfl) ?_
                refine va_get (D := D) (ci := 1) (v := .ref h10) (C := RX1) (T := TX1) (N := 8) hx hb hts inw_X1_copy_X1 hown hK hP 1 rfl rfl 4 (by decide) (hts (.fieldLink RX1 25 "EarTable$Grid" "sums" "[Z") (by decide +kernel)) (fun _ h9 => h9) rfl dX1_copy_78 ?_
                refine lv_iload_n hx hb dX1_copy_81 rfl (lv_at hl 0 rfl) ?_
                refine va_zald hx hb hK hP 10 2 rfl rfl (kn_in (by decide)) dX1_copy_82 ?_
                refine lv_topi (fun z_454 _ => ?_)
                refine kn_zast hx hb hK hP hD hS 11 2 rfl rfl (kn_in (by decide)) dX1_copy_83 (fun f_455 H locs hP hD hS => ?_)
                have hP : va_P D vwCl [(h0, .inr (1, [.ref h3, .ref h5, .ref h7, .ref h9, .ref h11, v0, v1, v2])), (h1, .inr (1, [.ref h2, .ref h4, .ref h6, .ref h8, .ref h10, .int 0, .int 0, .int 0])), (h2, .inl (cI, 264, .inl f3)), (h3, .inl (cI, 264, .inl f_431)), (h4, .inl (cI, 264, .inl f5)), (h5, .inl (cI, 264, .inl f_432)), (h6, .inl (cI, 264, .inl f7)), (h7, .inl (cI, 264, .inl f_433)), (h8, .inl (cJ, 264, .inr (.inl f9))), (h9, .inl (cJ, 264, .inr (.inl f_434))), (h10, .inl (cZ, 30, .inl f11)), (h11, .inl (cZ, 30, .inl f_455))] H := hP
                have hD : va_D A [(h0, .inr (1, [.ref h3, .ref h5, .ref h7, .ref h9, .ref h11, v0, v1, v2])), (h1, .inr (1, [.ref h2, .ref h4, .ref h6, .ref h8, .ref h10, .int 0, .int 0, .int 0])), (h2, .inl (cI, 264, .inl f3)), (h3, .inl (cI, 264, .inl f_431)), (h4, .inl (cI, 264, .inl f5)), (h5, .inl (cI, 264, .inl f_432)), (h6, .inl (cI, 264, .inl f7)), (h7, .inl (cI, 264, .inl f_433)), (h8, .inl (cJ, 264, .inr (.inl f9))), (h9, .inl (cJ, 264, .inr (.inl f_434))), (h10, .inl (cZ, 30, .inl f11)), (h11, .inl (cZ, 30, .inl f_455))] := hD
                refine lv_iinc (v := 7) (lv' := [(2, .int 7), (0, .ref h0), (1, .ref h1)]) hx hb dX1_copy_84 hl (k := 0) rfl (by decide) (by decide) rfl (fun ls hl => ?_)
                refine lv_goto (tgt := 66) hx hb dX1_copy_87 (by decide) ?_
                refine lv_iload_n hx hb dX1_copy_66 rfl (lv_at hl 0 rfl) ?_
                refine lv_bipush (v := 30) hx hb dX1_copy_67 (by decide) ?_
                refine lv_icmp_ge (tgt := 90) hx hb dX1_copy_69 (by decide) (fun c_456 => ?_) (fun c_456 => ?_)
                · skip
                  exact absurd c_456 (by decide)
                · skip
                  refine lv_aload_n hx hb dX1_copy_72 rfl (lv_at hl 1 rfl) ?_
                  refine va_get (D := D) (ci := 1) (v := .ref h11) (C := RX1) (T := TX1) (N := 8) hx hb hts inw_X1_copy_X1 hown hK hP 0 rfl rfl 4 (by decide) (hts (.fieldLink RX1 25 "EarTable$Grid" "sums" "[Z") (by decide +kernel)) (fun _ h9 => h9) rfl dX1_copy_73 ?_
                  refine lv_iload_n hx hb dX1_copy_76 rfl (lv_at hl 0 rfl) ?_
                  refine lv_aload_n hx hb dX1_copy_77 rfl (lv_at hl 2 rfl) ?_
                  refine va_get (D := D) (ci := 1) (v := .ref h10) (C := RX1) (T := TX1) (N := 8) hx hb hts inw_X1_copy_X1 hown hK hP 1 rfl rfl 4 (by decide) (hts (.fieldLink RX1 25 "EarTable$Grid" "sums" "[Z") (by decide +kernel)) (fun _ h9 => h9) rfl dX1_copy_78 ?_
                  refine lv_iload_n hx hb dX1_copy_81 rfl (lv_at hl 0 rfl) ?_
                  refine va_zald hx hb hK hP 10 2 rfl rfl (kn_in (by decide)) dX1_copy_82 ?_
                  refine lv_topi (fun z_457 _ => ?_)
                  refine kn_zast hx hb hK hP hD hS 11 2 rfl rfl (kn_in (by decide)) dX1_copy_83 (fun f_458 H locs hP hD hS => ?_)
                  have hP : va_P D vwCl [(h0, .inr (1, [.ref h3, .ref h5, .ref h7, .ref h9, .ref h11, v0, v1, v2])), (h1, .inr (1, [.ref h2, .ref h4, .ref h6, .ref h8, .ref h10, .int 0, .int 0, .int 0])), (h2, .inl (cI, 264, .inl f3)), (h3, .inl (cI, 264, .inl f_431)), (h4, .inl (cI, 264, .inl f5)), (h5, .inl (cI, 264, .inl f_432)), (h6, .inl (cI, 264, .inl f7)), (h7, .inl (cI, 264, .inl f_433)), (h8, .inl (cJ, 264, .inr (.inl f9))), (h9, .inl (cJ, 264, .inr (.inl f_434))), (h10, .inl (cZ, 30, .inl f11)), (h11, .inl (cZ, 30, .inl f_458))] H := hP
                  have hD : va_D A [(h0, .inr (1, [.ref h3, .ref h5, .ref h7, .ref h9, .ref h11, v0, v1, v2])), (h1, .inr (1, [.ref h2, .ref h4, .ref h6, .ref h8, .ref h10, .int 0, .int 0, .int 0])), (h2, .inl (cI, 264, .inl f3)), (h3, .inl (cI, 264, .inl f_431)), (h4, .inl (cI, 264, .inl f5)), (h5, .inl (cI, 264, .inl f_432)), (h6, .inl (cI, 264, .inl f7)), (h7, .inl (cI, 264, .inl f_433)), (h8, .inl (cJ, 264, .inr (.inl f9))), (h9, .inl (cJ, 264, .inr (.inl f_434))), (h10, .inl (cZ, 30, .inl f11)), (h11, .inl (cZ, 30, .inl f_458))] := hD
                  refine lv_iinc (v := 8) (lv' := [(2, .int 8), (0, .ref h0), (1, .ref h1)]) hx hb dX1_copy_84 hl (k := 0) rfl (by decide) (by decide) rfl (fun ls hl => ?_)
                  refine lv_goto (tgt := 66) hx hb dX1_copy_87 (by decide) ?_
                  refine lv_iload_n hx hb dX1_copy_66 rfl (lv_at hl 0 rfl) ?_
                  refine lv_bipush (v := 30) hx hb dX1_copy_67 (by decide) ?_
                  refine lv_icmp_ge (tgt := 90) hx hb dX1_copy_69 (by decide) (fun c_459 => ?_) (fun c_459 => ?_)
                  · skip
                    exact absurd c_459 (by decide)
                  · skip
                    refine lv_aload_n hx hb dX1_copy_72 rfl (lv_at hl 1 rfl) ?_
                    refine va_get (D := D) (ci := 1) (v := .ref h11) (C := RX1) (T := TX1) (N := 8) hx hb hts inw_X1_copy_X1 hown hK hP 0 rfl rfl 4 (by decide) (hts (.fieldLink RX1 25 "EarTable$Grid" "sums" "[Z") (by decide +kernel)) (fun _ h9 => h9) rfl dX1_copy_73 ?_
                    refine lv_iload_n hx hb dX1_copy_76 rfl (lv_at hl 0 rfl) ?_
                    refine lv_aload_n hx hb dX1_copy_77 rfl (lv_at hl 2 rfl) ?_
                    refine va_get (D := D) (ci := 1) (v := .ref h10) (C := RX1) (T := TX1) (N := 8) hx hb hts inw_X1_copy_X1 hown hK hP 1 rfl rfl 4 (by decide) (hts (.fieldLink RX1 25 "EarTable$Grid" "sums" "[Z") (by decide +kernel)) (fun _ h9 => h9) rfl dX1_copy_78 ?_
                    refine lv_iload_n hx hb dX1_copy_81 rfl (lv_at hl 0 rfl) ?_
                    refine va_zald hx hb hK hP 10 2 rfl rfl (kn_in (by decide)) dX1_copy_82 ?_
                    refine lv_topi (fun z_460 _ => ?_)
                    refine kn_zast hx hb hK hP hD hS 11 2 rfl rfl (kn_in (by decide)) dX1_copy_83 (fun f_461 H locs hP hD hS => ?_)
                    have hP : va_P D vwCl [(h0, .inr (1, [.ref h3, .ref h5, .ref h7, .ref h9, .ref h11, v0, v1, v2])), (h1, .inr (1, [.ref h2, .ref h4, .ref h6, .ref h8, .ref h10, .int 0, .int 0, .int 0])), (h2, .inl (cI, 264, .inl f3)), (h3, .inl (cI, 264, .inl f_431)), (h4, .inl (cI, 264, .inl f5)), (h5, .inl (cI, 264, .inl f_432)), (h6, .inl (cI, 264, .inl f7)), (h7, .inl (cI, 264, .inl f_433)), (h8, .inl (cJ, 264, .inr (.inl f9))), (h9, .inl (cJ, 264, .inr (.inl f_434))), (h10, .inl (cZ, 30, .inl f11)), (h11, .inl (cZ, 30, .inl f_461))] H := hP
                    have hD : va_D A [(h0, .inr (1, [.ref h3, .ref h5, .ref h7, .ref h9, .ref h11, v0, v1, v2])), (h1, .inr (1, [.ref h2, .ref h4, .ref h6, .ref h8, .ref h10, .int 0, .int 0, .int 0])), (h2, .inl (cI, 264, .inl f3)), (h3, .inl (cI, 264, .inl f_431)), (h4, .inl (cI, 264, .inl f5)), (h5, .inl (cI, 264, .inl f_432)), (h6, .inl (cI, 264, .inl f7)), (h7, .inl (cI, 264, .inl f_433)), (h8, .inl (cJ, 264, .inr (.inl f9))), (h9, .inl (cJ, 264, .inr (.inl f_434))), (h10, .inl (cZ, 30, .inl f11)), (h11, .inl (cZ, 30, .inl f_461))] := hD
                    refine lv_iinc (v := 9) (lv' := [(2, .int 9), (0, .ref h0), (1, .ref h1)]) hx hb dX1_copy_84 hl (k := 0) rfl (by decide) (by decide) rfl (fun ls hl => ?_)
                    refine lv_goto (tgt := 66) hx hb dX1_copy_87 (by decide) ?_
                    refine lv_iload_n hx hb dX1_copy_66 rfl (lv_at hl 0 rfl) ?_
                    refine lv_bipush (v := 30) hx hb dX1_copy_67 (by decide) ?_
                    refine lv_icmp_ge (tgt := 90) hx hb dX1_copy_69 (by decide) (fun c_462 => ?_) (fun c_462 => ?_)
                    · skip
                      exact absurd c_462 (by decide)
                    · skip
                      refine lv_aload_n hx hb dX1_copy_72 rfl (lv_at hl 1 rfl) ?_
                      refine va_get (D := D) (ci := 1) (v := .ref h11) (C := RX1) (T := TX1) (N := 8) hx hb hts inw_X1_copy_X1 hown hK hP 0 rfl rfl 4 (by decide) (hts (.fieldLink RX1 25 "EarTable$Grid" "sums" "[Z") (by decide +kernel)) (fun _ h9 => h9) rfl dX1_copy_73 ?_
                      refine lv_iload_n hx hb dX1_copy_76 rfl (lv_at hl 0 rfl) ?_
                      refine lv_aload_n hx hb dX1_copy_77 rfl (lv_at hl 2 rfl) ?_
                      refine va_get (D := D) (ci := 1) (v := .ref h10) (C := RX1) (T := TX1) (N := 8) hx hb hts inw_X1_copy_X1 hown hK hP 1 rfl rfl 4 (by decide) (hts (.fieldLink RX1 25 "EarTable$Grid" "sums" "[Z") (by decide +kernel)) (fun _ h9 => h9) rfl dX1_copy_78 ?_
                      refine lv_iload_n hx hb dX1_copy_81 rfl (lv_at hl 0 rfl) ?_
                      refine va_zald hx hb hK hP 10 2 rfl rfl (kn_in (by decide)) dX1_copy_82 ?_
                      refine lv_topi (fun z_463 _ => ?_)
                      refine kn_zast hx hb hK hP hD hS 11 2 rfl rfl (kn_in (by decide)) dX1_copy_83 (fun f_464 H locs hP hD hS => ?_)
                      have hP : va_P D vwCl [(h0, .inr (1, [.ref h3, .ref h5, .ref h7, .ref h9, .ref h11, v0, v1, v2])), (h1, .inr (1, [.ref h2, .ref h4, .ref h6, .ref h8, .ref h10, .int 0, .int 0, .int 0])), (h2, .inl (cI, 264, .inl f3)), (h3, .inl (cI, 264, .inl f_431)), (h4, .inl (cI, 264, .inl f5)), (h5, .inl (cI, 264, .inl f_432)), (h6, .inl (cI, 264, .inl f7)), (h7, .inl (cI, 264, .inl f_433)), (h8, .inl (cJ, 264, .inr (.inl f9))), (h9, .inl (cJ, 264, .inr (.inl f_434))), (h10, .inl (cZ, 30, .inl f11)), (h11, .inl (cZ, 30, .inl f_464))] H := hP
                      have hD : va_D A [(h0, .inr (1, [.ref h3, .ref h5, .ref h7, .ref h9, .ref h11, v0, v1, v2])), (h1, .inr (1, [.ref h2, .ref h4, .ref h6, .ref h8, .ref h10, .int 0, .int 0, .int 0])), (h2, .inl (cI, 264, .inl f3)), (h3, .inl (cI, 264, .inl f_431)), (h4, .inl (cI, 264, .inl f5)), (h5, .inl (cI, 264, .inl f_432)), (h6, .inl (cI, 264, .inl f7)), (h7, .inl (cI, 264, .inl f_433)), (h8, .inl (cJ, 264, .inr (.inl f9))), (h9, .inl (cJ, 264, .inr (.inl f_434))), (h10, .inl (cZ, 30, .inl f11)), (h11, .inl (cZ, 30, .inl f_464))] := hD
                      refine lv_iinc (v := 10) (lv' := [(2, .int 10), (0, .ref h0), (1, .ref h1)]) hx hb dX1_copy_84 hl (k := 0) rfl (by decide) (by decide) rfl (fun ls hl => ?_)
                      refine lv_goto (tgt := 66) hx hb dX1_copy_87 (by decide) ?_
                      refine lv_iload_n hx hb dX1_copy_66 rfl (lv_at hl 0 rfl) ?_
                      refine lv_bipush (v := 30) hx hb dX1_copy_67 (by decide) ?_
                      refine lv_icmp_ge (tgt := 90) hx hb dX1_copy_69 (by decide) (fun c_465 => ?_) (fun c_465 => ?_)
                      · skip
                        exact absurd c_465 (by decide)
                      · skip
                        refine lv_aload_n hx hb dX1_copy_72 rfl (lv_at hl 1 rfl) ?_
                        refine va_get (D := D) (ci := 1) (v := .ref h11) (C := RX1) (T := TX1) (N := 8) hx hb hts inw_X1_copy_X1 hown hK hP 0 rfl rfl 4 (by decide) (hts (.fieldLink RX1 25 "EarTable$Grid" "sums" "[Z") (by decide +kernel)) (fun _ h9 => h9) rfl dX1_copy_73 ?_
                        refine lv_iload_n hx hb dX1_copy_76 rfl (lv_at hl 0 rfl) ?_
                        refine lv_aload_n hx hb dX1_copy_77 rfl (lv_at hl 2 rfl) ?_
                        refine va_get (D := D) (ci := 1) (v := .ref h10) (C := RX1) (T := TX1) (N := 8) hx hb hts inw_X1_copy_X1 hown hK hP 1 rfl rfl 4 (by decide) (hts (.fieldLink RX1 25 "EarTable$Grid" "sums" "[Z") (by decide +kernel)) (fun _ h9 => h9) rfl dX1_copy_78 ?_
                        refine lv_iload_n hx hb dX1_copy_81 rfl (lv_at hl 0 rfl) ?_
                        refine va_zald hx hb hK hP 10 2 rfl rfl (kn_in (by decide)) dX1_copy_82 ?_
                        refine lv_topi (fun z_466 _ => ?_)
                        refine kn_zast hx hb hK hP hD hS 11 2 rfl rfl (kn_in (by decide)) dX1_copy_83 (fun f_467 H locs hP hD hS => ?_)
                        have hP : va_P D vwCl [(h0, .inr (1, [.ref h3, .ref h5, .ref h7, .ref h9, .ref h11, v0, v1, v2])), (h1, .inr (1, [.ref h2, .ref h4, .ref h6, .ref h8, .ref h10, .int 0, .int 0, .int 0])), (h2, .inl (cI, 264, .inl f3)), (h3, .inl (cI, 264, .inl f_431)), (h4, .inl (cI, 264, .inl f5)), (h5, .inl (cI, 264, .inl f_432)), (h6, .inl (cI, 264, .inl f7)), (h7, .inl (cI, 264, .inl f_433)), (h8, .inl (cJ, 264, .inr (.inl f9))), (h9, .inl (cJ, 264, .inr (.inl f_434))), (h10, .inl (cZ, 30, .inl f11)), (h11, .inl (cZ, 30, .inl f_467))] H := hP
                        have hD : va_D A [(h0, .inr (1, [.ref h3, .ref h5, .ref h7, .ref h9, .ref h11, v0, v1, v2])), (h1, .inr (1, [.ref h2, .ref h4, .ref h6, .ref h8, .ref h10, .int 0, .int 0, .int 0])), (h2, .inl (cI, 264, .inl f3)), (h3, .inl (cI, 264, .inl f_431)), (h4, .inl (cI, 264, .inl f5)), (h5, .inl (cI, 264, .inl f_432)), (h6, .inl (cI, 264, .inl f7)), (h7, .inl (cI, 264, .inl f_433)), (h8, .inl (cJ, 264, .inr (.inl f9))), (h9, .inl (cJ, 264, .inr (.inl f_434))), (h10, .inl (cZ, 30, .inl f11)), (h11, .inl (cZ, 30, .inl f_467))] := hD
                        refine lv_iinc (v := 11) (lv' := [(2, .int 11), (0, .ref h0), (1, .ref h1)]) hx hb dX1_copy_84 hl (k := 0) rfl (by decide) (by decide) rfl (fun ls hl => ?_)
                        refine lv_goto (tgt := 66) hx hb dX1_copy_87 (by decide) ?_
                        refine lv_iload_n hx hb dX1_copy_66 rfl (lv_at hl 0 rfl) ?_
                        refine lv_bipush (v := 30) hx hb dX1_copy_67 (by decide) ?_
                        refine lv_icmp_ge (tgt := 90) hx hb dX1_copy_69 (by decide) (fun c_468 => ?_) (fun c_468 => ?_)
                        · skip
                          exact absurd c_468 (by decide)
                        · skip
                          refine lv_aload_n hx hb dX1_copy_72 rfl (lv_at hl 1 rfl) ?_
                          refine va_get (D := D) (ci := 1) (v := .ref h11) (C := RX1) (T := TX1) (N := 8) hx hb hts inw_X1_copy_X1 hown hK hP 0 rfl rfl 4 (by decide) (hts (.fieldLink RX1 25 "EarTable$Grid" "sums" "[Z") (by decide +kernel)) (fun _ h9 => h9) rfl dX1_copy_73 ?_
                          refine lv_iload_n hx hb dX1_copy_76 rfl (lv_at hl 0 rfl) ?_
                          refine lv_aload_n hx hb dX1_copy_77 rfl (lv_at hl 2 rfl) ?_
                          refine va_get (D := D) (ci := 1) (v := .ref h10) (C := RX1) (T := TX1) (N := 8) hx hb hts inw_X1_copy_X1 hown hK hP 1 rfl rfl 4 (by decide) (hts (.fieldLink RX1 25 "EarTable$Grid" "sums" "[Z") (by decide +kernel)) (fun _ h9 => h9) rfl dX1_copy_78 ?_
                          refine lv_iload_n hx hb dX1_copy_81 rfl (lv_at hl 0 rfl) ?_
                          refine va_zald hx hb hK hP 10 2 rfl rfl (kn_in (by decide)) dX1_copy_82 ?_
                          refine lv_topi (fun z_469 _ => ?_)
                          refine kn_zast hx hb hK hP hD hS 11 2 rfl rfl (kn_in (by decide)) dX1_copy_83 (fun f_470 H locs hP hD hS => ?_)
                          have hP : va_P D vwCl [(h0, .inr (1, [.ref h3, .ref h5, .ref h7, .ref h9, .ref h11, v0, v1, v2])), (h1, .inr (1, [.ref h2, .ref h4, .ref h6, .ref h8, .ref h10, .int 0, .int 0, .int 0])), (h2, .inl (cI, 264, .inl f3)), (h3, .inl (cI, 264, .inl f_431)), (h4, .inl (cI, 264, .inl f5)), (h5, .inl (cI, 264, .inl f_432)), (h6, .inl (cI, 264, .inl f7)), (h7, .inl (cI, 264, .inl f_433)), (h8, .inl (cJ, 264, .inr (.inl f9))), (h9, .inl (cJ, 264, .inr (.inl f_434))), (h10, .inl (cZ, 30, .inl f11)), (h11, .inl (cZ, 30, .inl f_470))] H := hP
                          have hD : va_D A [(h0, .inr (1, [.ref h3, .ref h5, .ref h7, .ref h9, .ref h11, v0, v1, v2])), (h1, .inr (1, [.ref h2, .ref h4, .ref h6, .ref h8, .ref h10, .int 0, .int 0, .int 0])), (h2, .inl (cI, 264, .inl f3)), (h3, .inl (cI, 264, .inl f_431)), (h4, .inl (cI, 264, .inl f5)), (h5, .inl (cI, 264, .inl f_432)), (h6, .inl (cI, 264, .inl f7)), (h7, .inl (cI, 264, .inl f_433)), (h8, .inl (cJ, 264, .inr (.inl f9))), (h9, .inl (cJ, 264, .inr (.inl f_434))), (h10, .inl (cZ, 30, .inl f11)), (h11, .inl (cZ, 30, .inl f_470))] := hD
                          refine lv_iinc (v := 12) (lv' := [(2, .int 12), (0, .ref h0), (1, .ref h1)]) hx hb dX1_copy_84 hl (k := 0) rfl (by decide) (by decide) rfl (fun ls hl => ?_)
                          refine lv_goto (tgt := 66) hx hb dX1_copy_87 (by decide) ?_
                          refine lv_iload_n hx hb dX1_copy_66 rfl (lv_at hl 0 rfl) ?_
                          refine lv_bipush (v := 30) hx hb dX1_copy_67 (by decide) ?_
                          refine lv_icmp_ge (tgt := 90) hx hb dX1_copy_69 (by decide) (fun c_471 => ?_) (fun c_471 => ?_)
                          · skip
                            exact absurd c_471 (by decide)
                          · skip
                            refine lv_aload_n hx hb dX1_copy_72 rfl (lv_at hl 1 rfl) ?_
                            refine va_get (D := D) (ci := 1) (v := .ref h11) (C := RX1) (T := TX1) (N := 8) hx hb hts inw_X1_copy_X1 hown hK hP 0 rfl rfl 4 (by decide) (hts (.fieldLink RX1 25 "EarTable$Grid" "sums" "[Z") (by decide +kernel)) (fun _ h9 => h9) rfl dX1_copy_73 ?_
                            refine lv_iload_n hx hb dX1_copy_76 rfl (lv_at hl 0 rfl) ?_
                            refine lv_aload_n hx hb dX1_copy_77 rfl (lv_at hl 2 rfl) ?_
                            refine va_get (D := D) (ci := 1) (v := .ref h10) (C := RX1) (T := TX1) (N := 8) hx hb hts inw_X1_copy_X1 hown hK hP 1 rfl rfl 4 (by decide) (hts (.fieldLink RX1 25 "EarTable$Grid" "sums" "[Z") (by decide +kernel)) (fun _ h9 => h9) rfl dX1_copy_78 ?_
                            refine lv_iload_n hx hb dX1_copy_81 rfl (lv_at hl 0 rfl) ?_
                            refine va_zald hx hb hK hP 10 2 rfl rfl (kn_in (by decide)) dX1_copy_82 ?_
                            refine lv_topi (fun z_472 _ => ?_)
                            refine kn_zast hx hb hK hP hD hS 11 2 rfl rfl (kn_in (by decide)) dX1_copy_83 (fun f_473 H locs hP hD hS => ?_)
                            have hP : va_P D vwCl [(h0, .inr (1, [.ref h3, .ref h5, .ref h7, .ref h9, .ref h11, v0, v1, v2])), (h1, .inr (1, [.ref h2, .ref h4, .ref h6, .ref h8, .ref h10, .int 0, .int 0, .int 0])), (h2, .inl (cI, 264, .inl f3)), (h3, .inl (cI, 264, .inl f_431)), (h4, .inl (cI, 264, .inl f5)), (h5, .inl (cI, 264, .inl f_432)), (h6, .inl (cI, 264, .inl f7)), (h7, .inl (cI, 264, .inl f_433)), (h8, .inl (cJ, 264, .inr (.inl f9))), (h9, .inl (cJ, 264, .inr (.inl f_434))), (h10, .inl (cZ, 30, .inl f11)), (h11, .inl (cZ, 30, .inl f_473))] H := hP
                            have hD : va_D A [(h0, .inr (1, [.ref h3, .ref h5, .ref h7, .ref h9, .ref h11, v0, v1, v2])), (h1, .inr (1, [.ref h2, .ref h4, .ref h6, .ref h8, .ref h10, .int 0, .int 0, .int 0])), (h2, .inl (cI, 264, .inl f3)), (h3, .inl (cI, 264, .inl f_431)), (h4, .inl (cI, 264, .inl f5)), (h5, .inl (cI, 264, .inl f_432)), (h6, .inl (cI, 264, .inl f7)), (h7, .inl (cI, 264, .inl f_433)), (h8, .inl (cJ, 264, .inr (.inl f9))), (h9, .inl (cJ, 264, .inr (.inl f_434))), (h10, .inl (cZ, 30, .inl f11)), (h11, .inl (cZ, 30, .inl f_473))] := hD
                            refine lv_iinc (v := 13) (lv' := [(2, .int 13), (0, .ref h0), (1, .ref h1)]) hx hb dX1_copy_84 hl (k := 0) rfl (by decide) (by decide) rfl (fun ls hl => ?_)
                            refine lv_goto (tgt := 66) hx hb dX1_copy_87 (by decide) ?_
                            refine lv_iload_n hx hb dX1_copy_66 rfl (lv_at hl 0 rfl) ?_
                            refine lv_bipush (v := 30) hx hb dX1_copy_67 (by decide) ?_
                            refine lv_icmp_ge (tgt := 90) hx hb dX1_copy_69 (by decide) (fun c_474 => ?_) (fun c_474 => ?_)
                            · skip
                              exact absurd c_474 (by decide)
                            · skip
                              refine lv_aload_n hx hb dX1_copy_72 rfl (lv_at hl 1 rfl) ?_
                              refine va_get (D := D) (ci := 1) (v := .ref h11) (C := RX1) (T := TX1) (N := 8) hx hb hts inw_X1_copy_X1 hown hK hP 0 rfl rfl 4 (by decide) (hts (.fieldLink RX1 25 "EarTable$Grid" "sums" "[Z") (by decide +kernel)) (fun _ h9 => h9) rfl dX1_copy_73 ?_
                              refine lv_iload_n hx hb dX1_copy_76 rfl (lv_at hl 0 rfl) ?_
                              refine lv_aload_n hx hb dX1_copy_77 rfl (lv_at hl 2 rfl) ?_
                              refine va_get (D := D) (ci := 1) (v := .ref h10) (C := RX1) (T := TX1) (N := 8) hx hb hts inw_X1_copy_X1 hown hK hP 1 rfl rfl 4 (by decide) (hts (.fieldLink RX1 25 "EarTable$Grid" "sums" "[Z") (by decide +kernel)) (fun _ h9 => h9) rfl dX1_copy_78 ?_
                              refine lv_iload_n hx hb dX1_copy_81 rfl (lv_at hl 0 rfl) ?_
                              refine va_zald hx hb hK hP 10 2 rfl rfl (kn_in (by decide)) dX1_copy_82 ?_
                              refine lv_topi (fun z_475 _ => ?_)
                              refine kn_zast hx hb hK hP hD hS 11 2 rfl rfl (kn_in (by decide)) dX1_copy_83 (fun f_476 H locs hP hD hS => ?_)
                              have hP : va_P D vwCl [(h0, .inr (1, [.ref h3, .ref h5, .ref h7, .ref h9, .ref h11, v0, v1, v2])), (h1, .inr (1, [.ref h2, .ref h4, .ref h6, .ref h8, .ref h10, .int 0, .int 0, .int 0])), (h2, .inl (cI, 264, .inl f3)), (h3, .inl (cI, 264, .inl f_431)), (h4, .inl (cI, 264, .inl f5)), (h5, .inl (cI, 264, .inl f_432)), (h6, .inl (cI, 264, .inl f7)), (h7, .inl (cI, 264, .inl f_433)), (h8, .inl (cJ, 264, .inr (.inl f9))), (h9, .inl (cJ, 264, .inr (.inl f_434))), (h10, .inl (cZ, 30, .inl f11)), (h11, .inl (cZ, 30, .inl f_476))] H := hP
                              have hD : va_D A [(h0, .inr (1, [.ref h3, .ref h5, .ref h7, .ref h9, .ref h11, v0, v1, v2])), (h1, .inr (1, [.ref h2, .ref h4, .ref h6, .ref h8, .ref h10, .int 0, .int 0, .int 0])), (h2, .inl (cI, 264, .inl f3)), (h3, .inl (cI, 264, .inl f_431)), (h4, .inl (cI, 264, .inl f5)), (h5, .inl (cI, 264, .inl f_432)), (h6, .inl (cI, 264, .inl f7)), (h7, .inl (cI, 264, .inl f_433)), (h8, .inl (cJ, 264, .inr (.inl f9))), (h9, .inl (cJ, 264, .inr (.inl f_434))), (h10, .inl (cZ, 30, .inl f11)), (h11, .inl (cZ, 30, .inl f_476))] := hD
                              refine lv_iinc (v := 14) (lv' := [(2, .int 14), (0, .ref h0), (1, .ref h1)]) hx hb dX1_copy_84 hl (k := 0) rfl (by decide) (by decide) rfl (fun ls hl => ?_)
                              refine lv_goto (tgt := 66) hx hb dX1_copy_87 (by decide) ?_
                              refine lv_iload_n hx hb dX1_copy_66 rfl (lv_at hl 0 rfl) ?_
                              refine lv_bipush (v := 30) hx hb dX1_copy_67 (by decide) ?_
                              refine lv_icmp_ge (tgt := 90) hx hb dX1_copy_69 (by decide) (fun c_477 => ?_) (fun c_477 => ?_)
                              · skip
                                exact absurd c_477 (by decide)
                              · skip
                                refine lv_aload_n hx hb dX1_copy_72 rfl (lv_at hl 1 rfl) ?_
                                refine va_get (D := D) (ci := 1) (v := .ref h11) (C := RX1) (T := TX1) (N := 8) hx hb hts inw_X1_copy_X1 hown hK hP 0 rfl rfl 4 (by decide) (hts (.fieldLink RX1 25 "EarTable$Grid" "sums" "[Z") (by decide +kernel)) (fun _ h9 => h9) rfl dX1_copy_73 ?_
                                refine lv_iload_n hx hb dX1_copy_76 rfl (lv_at hl 0 rfl) ?_
                                refine lv_aload_n hx hb dX1_copy_77 rfl (lv_at hl 2 rfl) ?_
                                refine va_get (D := D) (ci := 1) (v := .ref h10) (C := RX1) (T := TX1) (N := 8) hx hb hts inw_X1_copy_X1 hown hK hP 1 rfl rfl 4 (by decide) (hts (.fieldLink RX1 25 "EarTable$Grid" "sums" "[Z") (by decide +kernel)) (fun _ h9 => h9) rfl dX1_copy_78 ?_
                                refine lv_iload_n hx hb dX1_copy_81 rfl (lv_at hl 0 rfl) ?_
                                refine va_zald hx hb hK hP 10 2 rfl rfl (kn_in (by decide)) dX1_copy_82 ?_
                                refine lv_topi (fun z_478 _ => ?_)
                                refine kn_zast hx hb hK hP hD hS 11 2 rfl rfl (kn_in (by decide)) dX1_copy_83 (fun f_479 H locs hP hD hS => ?_)
                                have hP : va_P D vwCl [(h0, .inr (1, [.ref h3, .ref h5, .ref h7, .ref h9, .ref h11, v0, v1, v2])), (h1, .inr (1, [.ref h2, .ref h4, .ref h6, .ref h8, .ref h10, .int 0, .int 0, .int 0])), (h2, .inl (cI, 264, .inl f3)), (h3, .inl (cI, 264, .inl f_431)), (h4, .inl (cI, 264, .inl f5)), (h5, .inl (cI, 264, .inl f_432)), (h6, .inl (cI, 264, .inl f7)), (h7, .inl (cI, 264, .inl f_433)), (h8, .inl (cJ, 264, .inr (.inl f9))), (h9, .inl (cJ, 264, .inr (.inl f_434))), (h10, .inl (cZ, 30, .inl f11)), (h11, .inl (cZ, 30, .inl f_479))] H := hP
                                have hD : va_D A [(h0, .inr (1, [.ref h3, .ref h5, .ref h7, .ref h9, .ref h11, v0, v1, v2])), (h1, .inr (1, [.ref h2, .ref h4, .ref h6, .ref h8, .ref h10, .int 0, .int 0, .int 0])), (h2, .inl (cI, 264, .inl f3)), (h3, .inl (cI, 264, .inl f_431)), (h4, .inl (cI, 264, .inl f5)), (h5, .inl (cI, 264, .inl f_432)), (h6, .inl (cI, 264, .inl f7)), (h7, .inl (cI, 264, .inl f_433)), (h8, .inl (cJ, 264, .inr (.inl f9))), (h9, .inl (cJ, 264, .inr (.inl f_434))), (h10, .inl (cZ, 30, .inl f11)), (h11, .inl (cZ, 30, .inl f_479))] := hD
                                refine lv_iinc (v := 15) (lv' := [(2, .int 15), (0, .ref h0), (1, .ref h1)]) hx hb dX1_copy_84 hl (k := 0) rfl (by decide) (by decide) rfl (fun ls hl => ?_)
                                refine lv_goto (tgt := 66) hx hb dX1_copy_87 (by decide) ?_
                                refine lv_iload_n hx hb dX1_copy_66 rfl (lv_at hl 0 rfl) ?_
                                refine lv_bipush (v := 30) hx hb dX1_copy_67 (by decide) ?_
                                refine lv_icmp_ge (tgt := 90) hx hb dX1_copy_69 (by decide) (fun c_480 => ?_) (fun c_480 => ?_)
                                · skip
                                  exact absurd c_480 (by decide)
                                · skip
                                  refine lv_aload_n hx hb dX1_copy_72 rfl (lv_at hl 1 rfl) ?_
                                  refine va_get (D := D) (ci := 1) (v := .ref h11) (C := RX1) (T := TX1) (N := 8) hx hb hts inw_X1_copy_X1 hown hK hP 0 rfl rfl 4 (by decide) (hts (.fieldLink RX1 25 "EarTable$Grid" "sums" "[Z") (by decide +kernel)) (fun _ h9 => h9) rfl dX1_copy_73 ?_
                                  refine lv_iload_n hx hb dX1_copy_76 rfl (lv_at hl 0 rfl) ?_
                                  refine lv_aload_n hx hb dX1_copy_77 rfl (lv_at hl 2 rfl) ?_
                                  refine va_get (D := D) (ci := 1) (v := .ref h10) (C := RX1) (T := TX1) (N := 8) hx hb hts inw_X1_copy_X1 hown hK hP 1 rfl rfl 4 (by decide) (hts (.fieldLink RX1 25 "EarTable$Grid" "sums" "[Z") (by decide +kernel)) (fun _ h9 => h9) rfl dX1_copy_78 ?_
                                  refine lv_iload_n hx hb dX1_copy_81 rfl (lv_at hl 0 rfl) ?_
                                  refine va_zald hx hb hK hP 10 2 rfl rfl (kn_in (by decide)) dX1_copy_82 ?_
                                  refine lv_topi (fun z_481 _ => ?_)
                                  refine kn_zast hx hb hK hP hD hS 11 2 rfl rfl (kn_in (by decide)) dX1_copy_83 (fun f_482 H locs hP hD hS => ?_)
                                  have hP : va_P D vwCl [(h0, .inr (1, [.ref h3, .ref h5, .ref h7, .ref h9, .ref h11, v0, v1, v2])), (h1, .inr (1, [.ref h2, .ref h4, .ref h6, .ref h8, .ref h10, .int 0, .int 0, .int 0])), (h2, .inl (cI, 264, .inl f3)), (h3, .inl (cI, 264, .inl f_431)), (h4, .inl (cI, 264, .inl f5)), (h5, .inl (cI, 264, .inl f_432)), (h6, .inl (cI, 264, .inl f7)), (h7, .inl (cI, 264, .inl f_433)), (h8, .inl (cJ, 264, .inr (.inl f9))), (h9, .inl (cJ, 264, .inr (.inl f_434))), (h10, .inl (cZ, 30, .inl f11)), (h11, .inl (cZ, 30, .inl f_482))] H := hP
                                  have hD : va_D A [(h0, .inr (1, [.ref h3, .ref h5, .ref h7, .ref h9, .ref h11, v0, v1, v2])), (h1, .inr (1, [.ref h2, .ref h4, .ref h6, .ref h8, .ref h10, .int 0, .int 0, .int 0])), (h2, .inl (cI, 264, .inl f3)), (h3, .inl (cI, 264, .inl f_431)), (h4, .inl (cI, 264, .inl f5)), (h5, .inl (cI, 264, .inl f_432)), (h6, .inl (cI, 264, .inl f7)), (h7, .inl (cI, 264, .inl f_433)), (h8, .inl (cJ, 264, .inr (.inl f9))), (h9, .inl (cJ, 264, .inr (.inl f_434))), (h10, .inl (cZ, 30, .inl f11)), (h11, .inl (cZ, 30, .inl f_482))] := hD
                                  refine lv_iinc (v := 16) (lv' := [(2, .int 16), (0, .ref h0), (1, .ref h1)]) hx hb dX1_copy_84 hl (k := 0) rfl (by decide) (by decide) rfl (fun ls hl => ?_)
                                  refine lv_goto (tgt := 66) hx hb dX1_copy_87 (by decide) ?_
                                  refine lv_iload_n hx hb dX1_copy_66 rfl (lv_at hl 0 rfl) ?_
                                  refine lv_bipush (v := 30) hx hb dX1_copy_67 (by decide) ?_
                                  refine lv_icmp_ge (tgt := 90) hx hb dX1_copy_69 (by decide) (fun c_483 => ?_) (fun c_483 => ?_)
                                  · skip
                                    exact absurd c_483 (by decide)
                                  · skip
                                    refine lv_aload_n hx hb dX1_copy_72 rfl (lv_at hl 1 rfl) ?_
                                    refine va_get (D := D) (ci := 1) (v := .ref h11) (C := RX1) (T := TX1) (N := 8) hx hb hts inw_X1_copy_X1 hown hK hP 0 rfl rfl 4 (by decide) (hts (.fieldLink RX1 25 "EarTable$Grid" "sums" "[Z") (by decide +kernel)) (fun _ h9 => h9) rfl dX1_copy_73 ?_
                                    refine lv_iload_n hx hb dX1_copy_76 rfl (lv_at hl 0 rfl) ?_
                                    refine lv_aload_n hx hb dX1_copy_77 rfl (lv_at hl 2 rfl) ?_
                                    refine va_get (D := D) (ci := 1) (v := .ref h10) (C := RX1) (T := TX1) (N := 8) hx hb hts inw_X1_copy_X1 hown hK hP 1 rfl rfl 4 (by decide) (hts (.fieldLink RX1 25 "EarTable$Grid" "sums" "[Z") (by decide +kernel)) (fun _ h9 => h9) rfl dX1_copy_78 ?_
                                    refine lv_iload_n hx hb dX1_copy_81 rfl (lv_at hl 0 rfl) ?_
                                    refine va_zald hx hb hK hP 10 2 rfl rfl (kn_in (by decide)) dX1_copy_82 ?_
                                    refine lv_topi (fun z_484 _ => ?_)
                                    refine kn_zast hx hb hK hP hD hS 11 2 rfl rfl (kn_in (by decide)) dX1_copy_83 (fun f_485 H locs hP hD hS => ?_)
                                    have hP : va_P D vwCl [(h0, .inr (1, [.ref h3, .ref h5, .ref h7, .ref h9, .ref h11, v0, v1, v2])), (h1, .inr (1, [.ref h2, .ref h4, .ref h6, .ref h8, .ref h10, .int 0, .int 0, .int 0])), (h2, .inl (cI, 264, .inl f3)), (h3, .inl (cI, 264, .inl f_431)), (h4, .inl (cI, 264, .inl f5)), (h5, .inl (cI, 264, .inl f_432)), (h6, .inl (cI, 264, .inl f7)), (h7, .inl (cI, 264, .inl f_433)), (h8, .inl (cJ, 264, .inr (.inl f9))), (h9, .inl (cJ, 264, .inr (.inl f_434))), (h10, .inl (cZ, 30, .inl f11)), (h11, .inl (cZ, 30, .inl f_485))] H := hP
                                    have hD : va_D A [(h0, .inr (1, [.ref h3, .ref h5, .ref h7, .ref h9, .ref h11, v0, v1, v2])), (h1, .inr (1, [.ref h2, .ref h4, .ref h6, .ref h8, .ref h10, .int 0, .int 0, .int 0])), (h2, .inl (cI, 264, .inl f3)), (h3, .inl (cI, 264, .inl f_431)), (h4, .inl (cI, 264, .inl f5)), (h5, .inl (cI, 264, .inl f_432)), (h6, .inl (cI, 264, .inl f7)), (h7, .inl (cI, 264, .inl f_433)), (h8, .inl (cJ, 264, .inr (.inl f9))), (h9, .inl (cJ, 264, .inr (.inl f_434))), (h10, .inl (cZ, 30, .inl f11)), (h11, .inl (cZ, 30, .inl f_485))] := hD
                                    refine lv_iinc (v := 17) (lv' := [(2, .int 17), (0, .ref h0), (1, .ref h1)]) hx hb dX1_copy_84 hl (k := 0) rfl (by decide) (by decide) rfl (fun ls hl => ?_)
                                    refine lv_goto (tgt := 66) hx hb dX1_copy_87 (by decide) ?_
                                    refine lv_iload_n hx hb dX1_copy_66 rfl (lv_at hl 0 rfl) ?_
                                    refine lv_bipush (v := 30) hx hb dX1_copy_67 (by decide) ?_
                                    refine lv_icmp_ge (tgt := 90) hx hb dX1_copy_69 (by decide) (fun c_486 => ?_) (fun c_486 => ?_)
                                    · skip
                                      exact absurd c_486 (by decide)
                                    · skip
                                      refine lv_aload_n hx hb dX1_copy_72 rfl (lv_at hl 1 rfl) ?_
                                      refine va_get (D := D) (ci := 1) (v := .ref h11) (C := RX1) (T := TX1) (N := 8) hx hb hts inw_X1_copy_X1 hown hK hP 0 rfl rfl 4 (by decide) (hts (.fieldLink RX1 25 "EarTable$Grid" "sums" "[Z") (by decide +kernel)) (fun _ h9 => h9) rfl dX1_copy_73 ?_
                                      refine lv_iload_n hx hb dX1_copy_76 rfl (lv_at hl 0 rfl) ?_
                                      refine lv_aload_n hx hb dX1_copy_77 rfl (lv_at hl 2 rfl) ?_
                                      refine va_get (D := D) (ci := 1) (v := .ref h10) (C := RX1) (T := TX1) (N := 8) hx hb hts inw_X1_copy_X1 hown hK hP 1 rfl rfl 4 (by decide) (hts (.fieldLink RX1 25 "EarTable$Grid" "sums" "[Z") (by decide +kernel)) (fun _ h9 => h9) rfl dX1_copy_78 ?_
                                      refine lv_iload_n hx hb dX1_copy_81 rfl (lv_at hl 0 rfl) ?_
                                      refine va_zald hx hb hK hP 10 2 rfl rfl (kn_in (by decide)) dX1_copy_82 ?_
                                      refine lv_topi (fun z_487 _ => ?_)
                                      refine kn_zast hx hb hK hP hD hS 11 2 rfl rfl (kn_in (by decide)) dX1_copy_83 (fun f_488 H locs hP hD hS => ?_)
                                      have hP : va_P D vwCl [(h0, .inr (1, [.ref h3, .ref h5, .ref h7, .ref h9, .ref h11, v0, v1, v2])), (h1, .inr (1, [.ref h2, .ref h4, .ref h6, .ref h8, .ref h10, .int 0, .int 0, .int 0])), (h2, .inl (cI, 264, .inl f3)), (h3, .inl (cI, 264, .inl f_431)), (h4, .inl (cI, 264, .inl f5)), (h5, .inl (cI, 264, .inl f_432)), (h6, .inl (cI, 264, .inl f7)), (h7, .inl (cI, 264, .inl f_433)), (h8, .inl (cJ, 264, .inr (.inl f9))), (h9, .inl (cJ, 264, .inr (.inl f_434))), (h10, .inl (cZ, 30, .inl f11)), (h11, .inl (cZ, 30, .inl f_488))] H := hP
                                      have hD : va_D A [(h0, .inr (1, [.ref h3, .ref h5, .ref h7, .ref h9, .ref h11, v0, v1, v2])), (h1, .inr (1, [.ref h2, .ref h4, .ref h6, .ref h8, .ref h10, .int 0, .int 0, .int 0])), (h2, .inl (cI, 264, .inl f3)), (h3, .inl (cI, 264, .inl f_431)), (h4, .inl (cI, 264, .inl f5)), (h5, .inl (cI, 264, .inl f_432)), (h6, .inl (cI, 264, .inl f7)), (h7, .inl (cI, 264, .inl f_433)), (h8, .inl (cJ, 264, .inr (.inl f9))), (h9, .inl (cJ, 264, .inr (.inl f_434))), (h10, .inl (cZ, 30, .inl f11)), (h11, .inl (cZ, 30, .inl f_488))] := hD
                                      refine lv_iinc (v := 18) (lv' := [(2, .int 18), (0, .ref h0), (1, .ref h1)]) hx hb dX1_copy_84 hl (k := 0) rfl (by decide) (by decide) rfl (fun ls hl => ?_)
                                      refine lv_goto (tgt := 66) hx hb dX1_copy_87 (by decide) ?_
                                      refine lv_iload_n hx hb dX1_copy_66 rfl (lv_at hl 0 rfl) ?_
                                      refine lv_bipush (v := 30) hx hb dX1_copy_67 (by decide) ?_
                                      refine lv_icmp_ge (tgt := 90) hx hb dX1_copy_69 (by decide) (fun c_489 => ?_) (fun c_489 => ?_)
                                      · skip
                                        exact absurd c_489 (by decide)
                                      · skip
                                        refine lv_aload_n hx hb dX1_copy_72 rfl (lv_at hl 1 rfl) ?_
                                        refine va_get (D := D) (ci := 1) (v := .ref h11) (C := RX1) (T := TX1) (N := 8) hx hb hts inw_X1_copy_X1 hown hK hP 0 rfl rfl 4 (by decide) (hts (.fieldLink RX1 25 "EarTable$Grid" "sums" "[Z") (by decide +kernel)) (fun _ h9 => h9) rfl dX1_copy_73 ?_
                                        refine lv_iload_n hx hb dX1_copy_76 rfl (lv_at hl 0 rfl) ?_
                                        refine lv_aload_n hx hb dX1_copy_77 rfl (lv_at hl 2 rfl) ?_
                                        refine va_get (D := D) (ci := 1) (v := .ref h10) (C := RX1) (T := TX1) (N := 8) hx hb hts inw_X1_copy_X1 hown hK hP 1 rfl rfl 4 (by decide) (hts (.fieldLink RX1 25 "EarTable$Grid" "sums" "[Z") (by decide +kernel)) (fun _ h9 => h9) rfl dX1_copy_78 ?_
                                        refine lv_iload_n hx hb dX1_copy_81 rfl (lv_at hl 0 rfl) ?_
                                        refine va_zald hx hb hK hP 10 2 rfl rfl (kn_in (by decide)) dX1_copy_82 ?_
                                        refine lv_topi (fun z_490 _ => ?_)
                                        refine kn_zast hx hb hK hP hD hS 11 2 rfl rfl (kn_in (by decide)) dX1_copy_83 (fun f_491 H locs hP hD hS => ?_)
                                        have hP : va_P D vwCl [(h0, .inr (1, [.ref h3, .ref h5, .ref h7, .ref h9, .ref h11, v0, v1, v2])), (h1, .inr (1, [.ref h2, .ref h4, .ref h6, .ref h8, .ref h10, .int 0, .int 0, .int 0])), (h2, .inl (cI, 264, .inl f3)), (h3, .inl (cI, 264, .inl f_431)), (h4, .inl (cI, 264, .inl f5)), (h5, .inl (cI, 264, .inl f_432)), (h6, .inl (cI, 264, .inl f7)), (h7, .inl (cI, 264, .inl f_433)), (h8, .inl (cJ, 264, .inr (.inl f9))), (h9, .inl (cJ, 264, .inr (.inl f_434))), (h10, .inl (cZ, 30, .inl f11)), (h11, .inl (cZ, 30, .inl f_491))] H := hP
                                        have hD : va_D A [(h0, .inr (1, [.ref h3, .ref h5, .ref h7, .ref h9, .ref h11, v0, v1, v2])), (h1, .inr (1, [.ref h2, .ref h4, .ref h6, .ref h8, .ref h10, .int 0, .int 0, .int 0])), (h2, .inl (cI, 264, .inl f3)), (h3, .inl (cI, 264, .inl f_431)), (h4, .inl (cI, 264, .inl f5)), (h5, .inl (cI, 264, .inl f_432)), (h6, .inl (cI, 264, .inl f7)), (h7, .inl (cI, 264, .inl f_433)), (h8, .inl (cJ, 264, .inr (.inl f9))), (h9, .inl (cJ, 264, .inr (.inl f_434))), (h10, .inl (cZ, 30, .inl f11)), (h11, .inl (cZ, 30, .inl f_491))] := hD
                                        refine lv_iinc (v := 19) (lv' := [(2, .int 19), (0, .ref h0), (1, .ref h1)]) hx hb dX1_copy_84 hl (k := 0) rfl (by decide) (by decide) rfl (fun ls hl => ?_)
                                        refine lv_goto (tgt := 66) hx hb dX1_copy_87 (by decide) ?_
                                        refine lv_iload_n hx hb dX1_copy_66 rfl (lv_at hl 0 rfl) ?_
                                        refine lv_bipush (v := 30) hx hb dX1_copy_67 (by decide) ?_
                                        refine lv_icmp_ge (tgt := 90) hx hb dX1_copy_69 (by decide) (fun c_492 => ?_) (fun c_492 => ?_)
                                        · skip
                                          exact absurd c_492 (by decide)
                                        · skip
                                          refine lv_aload_n hx hb dX1_copy_72 rfl (lv_at hl 1 rfl) ?_
                                          refine va_get (D := D) (ci := 1) (v := .ref h11) (C := RX1) (T := TX1) (N := 8) hx hb hts inw_X1_copy_X1 hown hK hP 0 rfl rfl 4 (by decide) (hts (.fieldLink RX1 25 "EarTable$Grid" "sums" "[Z") (by decide +kernel)) (fun _ h9 => h9) rfl dX1_copy_73 ?_
                                          refine lv_iload_n hx hb dX1_copy_76 rfl (lv_at hl 0 rfl) ?_
                                          refine lv_aload_n hx hb dX1_copy_77 rfl (lv_at hl 2 rfl) ?_
                                          refine va_get (D := D) (ci := 1) (v := .ref h10) (C := RX1) (T := TX1) (N := 8) hx hb hts inw_X1_copy_X1 hown hK hP 1 rfl rfl 4 (by decide) (hts (.fieldLink RX1 25 "EarTable$Grid" "sums" "[Z") (by decide +kernel)) (fun _ h9 => h9) rfl dX1_copy_78 ?_
                                          refine lv_iload_n hx hb dX1_copy_81 rfl (lv_at hl 0 rfl) ?_
                                          refine va_zald hx hb hK hP 10 2 rfl rfl (kn_in (by decide)) dX1_copy_82 ?_
                                          refine lv_topi (fun z_493 _ => ?_)
                                          refine kn_zast hx hb hK hP hD hS 11 2 rfl rfl (kn_in (by decide)) dX1_copy_83 (fun f_494 H locs hP hD hS => ?_)
                                          have hP : va_P D vwCl [(h0, .inr (1, [.ref h3, .ref h5, .ref h7, .ref h9, .ref h11, v0, v1, v2])), (h1, .inr (1, [.ref h2, .ref h4, .ref h6, .ref h8, .ref h10, .int 0, .int 0, .int 0])), (h2, .inl (cI, 264, .inl f3)), (h3, .inl (cI, 264, .inl f_431)), (h4, .inl (cI, 264, .inl f5)), (h5, .inl (cI, 264, .inl f_432)), (h6, .inl (cI, 264, .inl f7)), (h7, .inl (cI, 264, .inl f_433)), (h8, .inl (cJ, 264, .inr (.inl f9))), (h9, .inl (cJ, 264, .inr (.inl f_434))), (h10, .inl (cZ, 30, .inl f11)), (h11, .inl (cZ, 30, .inl f_494))] H := hP
                                          have hD : va_D A [(h0, .inr (1, [.ref h3, .ref h5, .ref h7, .ref h9, .ref h11, v0, v1, v2])), (h1, .inr (1, [.ref h2, .ref h4, .ref h6, .ref h8, .ref h10, .int 0, .int 0, .int 0])), (h2, .inl (cI, 264, .inl f3)), (h3, .inl (cI, 264, .inl f_431)), (h4, .inl (cI, 264, .inl f5)), (h5, .inl (cI, 264, .inl f_432)), (h6, .inl (cI, 264, .inl f7)), (h7, .inl (cI, 264, .inl f_433)), (h8, .inl (cJ, 264, .inr (.inl f9))), (h9, .inl (cJ, 264, .inr (.inl f_434))), (h10, .inl (cZ, 30, .inl f11)), (h11, .inl (cZ, 30, .inl f_494))] := hD
                                          refine lv_iinc (v := 20) (lv' := [(2, .int 20), (0, .ref h0), (1, .ref h1)]) hx hb dX1_copy_84 hl (k := 0) rfl (by decide) (by decide) rfl (fun ls hl => ?_)
                                          refine lv_goto (tgt := 66) hx hb dX1_copy_87 (by decide) ?_
                                          refine lv_iload_n hx hb dX1_copy_66 rfl (lv_at hl 0 rfl) ?_
                                          refine lv_bipush (v := 30) hx hb dX1_copy_67 (by decide) ?_
                                          refine lv_icmp_ge (tgt := 90) hx hb dX1_copy_69 (by decide) (fun c_495 => ?_) (fun c_495 => ?_)
                                          · skip
                                            exact absurd c_495 (by decide)
                                          · skip
                                            refine lv_aload_n hx hb dX1_copy_72 rfl (lv_at hl 1 rfl) ?_
                                            refine va_get (D := D) (ci := 1) (v := .ref h11) (C := RX1) (T := TX1) (N := 8) hx hb hts inw_X1_copy_X1 hown hK hP 0 rfl rfl 4 (by decide) (hts (.fieldLink RX1 25 "EarTable$Grid" "sums" "[Z") (by decide +kernel)) (fun _ h9 => h9) rfl dX1_copy_73 ?_
                                            refine lv_iload_n hx hb dX1_copy_76 rfl (lv_at hl 0 rfl) ?_
                                            refine lv_aload_n hx hb dX1_copy_77 rfl (lv_at hl 2 rfl) ?_
                                            refine va_get (D := D) (ci := 1) (v := .ref h10) (C := RX1) (T := TX1) (N := 8) hx hb hts inw_X1_copy_X1 hown hK hP 1 rfl rfl 4 (by decide) (hts (.fieldLink RX1 25 "EarTable$Grid" "sums" "[Z") (by decide +kernel)) (fun _ h9 => h9) rfl dX1_copy_78 ?_
                                            refine lv_iload_n hx hb dX1_copy_81 rfl (lv_at hl 0 rfl) ?_
                                            refine va_zald hx hb hK hP 10 2 rfl rfl (kn_in (by decide)) dX1_copy_82 ?_
                                            refine lv_topi (fun z_496 _ => ?_)
                                            refine kn_zast hx hb hK hP hD hS 11 2 rfl rfl (kn_in (by decide)) dX1_copy_83 (fun f_497 H locs hP hD hS => ?_)
                                            have hP : va_P D vwCl [(h0, .inr (1, [.ref h3, .ref h5, .ref h7, .ref h9, .ref h11, v0, v1, v2])), (h1, .inr (1, [.ref h2, .ref h4, .ref h6, .ref h8, .ref h10, .int 0, .int 0, .int 0])), (h2, .inl (cI, 264, .inl f3)), (h3, .inl (cI, 264, .inl f_431)), (h4, .inl (cI, 264, .inl f5)), (h5, .inl (cI, 264, .inl f_432)), (h6, .inl (cI, 264, .inl f7)), (h7, .inl (cI, 264, .inl f_433)), (h8, .inl (cJ, 264, .inr (.inl f9))), (h9, .inl (cJ, 264, .inr (.inl f_434))), (h10, .inl (cZ, 30, .inl f11)), (h11, .inl (cZ, 30, .inl f_497))] H := hP
                                            have hD : va_D A [(h0, .inr (1, [.ref h3, .ref h5, .ref h7, .ref h9, .ref h11, v0, v1, v2])), (h1, .inr (1, [.ref h2, .ref h4, .ref h6, .ref h8, .ref h10, .int 0, .int 0, .int 0])), (h2, .inl (cI, 264, .inl f3)), (h3, .inl (cI, 264, .inl f_431)), (h4, .inl (cI, 264, .inl f5)), (h5, .inl (cI, 264, .inl f_432)), (h6, .inl (cI, 264, .inl f7)), (h7, .inl (cI, 264, .inl f_433)), (h8, .inl (cJ, 264, .inr (.inl f9))), (h9, .inl (cJ, 264, .inr (.inl f_434))), (h10, .inl (cZ, 30, .inl f11)), (h11, .inl (cZ, 30, .inl f_497))] := hD
                                            refine lv_iinc (v := 21) (lv' := [(2, .int 21), (0, .ref h0), (1, .ref h1)]) hx hb dX1_copy_84 hl (k := 0) rfl (by decide) (by decide) rfl (fun ls hl => ?_)
                                            refine lv_goto (tgt := 66) hx hb dX1_copy_87 (by decide) ?_
                                            refine lv_iload_n hx hb dX1_copy_66 rfl (lv_at hl 0 rfl) ?_
                                            refine lv_bipush (v := 30) hx hb dX1_copy_67 (by decide) ?_
                                            refine lv_icmp_ge (tgt := 90) hx hb dX1_copy_69 (by decide) (fun c_498 => ?_) (fun c_498 => ?_)
                                            · skip
                                              exact absurd c_498 (by decide)
                                            · skip
                                              refine lv_aload_n hx hb dX1_copy_72 rfl (lv_at hl 1 rfl) ?_
                                              refine va_get (D := D) (ci := 1) (v := .ref h11) (C := RX1) (T := TX1) (N := 8) hx hb hts inw_X1_copy_X1 hown hK hP 0 rfl rfl 4 (by decide) (hts (.fieldLink RX1 25 "EarTable$Grid" "sums" "[Z") (by decide +kernel)) (fun _ h9 => h9) rfl dX1_copy_73 ?_
                                              refine lv_iload_n hx hb dX1_copy_76 rfl (lv_at hl 0 rfl) ?_
                                              refine lv_aload_n hx hb dX1_copy_77 rfl (lv_at hl 2 rfl) ?_
                                              refine va_get (D := D) (ci := 1) (v := .ref h10) (C := RX1) (T := TX1) (N := 8) hx hb hts inw_X1_copy_X1 hown hK hP 1 rfl rfl 4 (by decide) (hts (.fieldLink RX1 25 "EarTable$Grid" "sums" "[Z") (by decide +kernel)) (fun _ h9 => h9) rfl dX1_copy_78 ?_
                                              refine lv_iload_n hx hb dX1_copy_81 rfl (lv_at hl 0 rfl) ?_
                                              refine va_zald hx hb hK hP 10 2 rfl rfl (kn_in (by decide)) dX1_copy_82 ?_
                                              refine lv_topi (fun z_499 _ => ?_)
                                              refine kn_zast hx hb hK hP hD hS 11 2 rfl rfl (kn_in (by decide)) dX1_copy_83 (fun f_500 H locs hP hD hS => ?_)
                                              have hP : va_P D vwCl [(h0, .inr (1, [.ref h3, .ref h5, .ref h7, .ref h9, .ref h11, v0, v1, v2])), (h1, .inr (1, [.ref h2, .ref h4, .ref h6, .ref h8, .ref h10, .int 0, .int 0, .int 0])), (h2, .inl (cI, 264, .inl f3)), (h3, .inl (cI, 264, .inl f_431)), (h4, .inl (cI, 264, .inl f5)), (h5, .inl (cI, 264, .inl f_432)), (h6, .inl (cI, 264, .inl f7)), (h7, .inl (cI, 264, .inl f_433)), (h8, .inl (cJ, 264, .inr (.inl f9))), (h9, .inl (cJ, 264, .inr (.inl f_434))), (h10, .inl (cZ, 30, .inl f11)), (h11, .inl (cZ, 30, .inl f_500))] H := hP
                                              have hD : va_D A [(h0, .inr (1, [.ref h3, .ref h5, .ref h7, .ref h9, .ref h11, v0, v1, v2])), (h1, .inr (1, [.ref h2, .ref h4, .ref h6, .ref h8, .ref h10, .int 0, .int 0, .int 0])), (h2, .inl (cI, 264, .inl f3)), (h3, .inl (cI, 264, .inl f_431)), (h4, .inl (cI, 264, .inl f5)), (h5, .inl (cI, 264, .inl f_432)), (h6, .inl (cI, 264, .inl f7)), (h7, .inl (cI, 264, .inl f_433)), (h8, .inl (cJ, 264, .inr (.inl f9))), (h9, .inl (cJ, 264, .inr (.inl f_434))), (h10, .inl (cZ, 30, .inl f11)), (h11, .inl (cZ, 30, .inl f_500))] := hD
                                              refine lv_iinc (v := 22) (lv' := [(2, .int 22), (0, .ref h0), (1, .ref h1)]) hx hb dX1_copy_84 hl (k := 0) rfl (by decide) (by decide) rfl (fun ls hl => ?_)
                                              refine lv_goto (tgt := 66) hx hb dX1_copy_87 (by decide) ?_
                                              refine lv_iload_n hx hb dX1_copy_66 rfl (lv_at hl 0 rfl) ?_
                                              refine lv_bipush (v := 30) hx hb dX1_copy_67 (by decide) ?_
                                              refine lv_icmp_ge (tgt := 90) hx hb dX1_copy_69 (by decide) (fun c_501 => ?_) (fun c_501 => ?_)
                                              · skip
                                                exact absurd c_501 (by decide)
                                              · skip
                                                refine lv_aload_n hx hb dX1_copy_72 rfl (lv_at hl 1 rfl) ?_
                                                refine va_get (D := D) (ci := 1) (v := .ref h11) (C := RX1) (T := TX1) (N := 8) hx hb hts inw_X1_copy_X1 hown hK hP 0 rfl rfl 4 (by decide) (hts (.fieldLink RX1 25 "EarTable$Grid" "sums" "[Z") (by decide +kernel)) (fun _ h9 => h9) rfl dX1_copy_73 ?_
                                                refine lv_iload_n hx hb dX1_copy_76 rfl (lv_at hl 0 rfl) ?_
                                                refine lv_aload_n hx hb dX1_copy_77 rfl (lv_at hl 2 rfl) ?_
                                                refine va_get (D := D) (ci := 1) (v := .ref h10) (C := RX1) (T := TX1) (N := 8) hx hb hts inw_X1_copy_X1 hown hK hP 1 rfl rfl 4 (by decide) (hts (.fieldLink RX1 25 "EarTable$Grid" "sums" "[Z") (by decide +kernel)) (fun _ h9 => h9) rfl dX1_copy_78 ?_
                                                refine lv_iload_n hx hb dX1_copy_81 rfl (lv_at hl 0 rfl) ?_
                                                refine va_zald hx hb hK hP 10 2 rfl rfl (kn_in (by decide)) dX1_copy_82 ?_
                                                refine lv_topi (fun z_502 _ => ?_)
                                                refine kn_zast hx hb hK hP hD hS 11 2 rfl rfl (kn_in (by decide)) dX1_copy_83 (fun f_503 H locs hP hD hS => ?_)
                                                have hP : va_P D vwCl [(h0, .inr (1, [.ref h3, .ref h5, .ref h7, .ref h9, .ref h11, v0, v1, v2])), (h1, .inr (1, [.ref h2, .ref h4, .ref h6, .ref h8, .ref h10, .int 0, .int 0, .int 0])), (h2, .inl (cI, 264, .inl f3)), (h3, .inl (cI, 264, .inl f_431)), (h4, .inl (cI, 264, .inl f5)), (h5, .inl (cI, 264, .inl f_432)), (h6, .inl (cI, 264, .inl f7)), (h7, .inl (cI, 264, .inl f_433)), (h8, .inl (cJ, 264, .inr (.inl f9))), (h9, .inl (cJ, 264, .inr (.inl f_434))), (h10, .inl (cZ, 30, .inl f11)), (h11, .inl (cZ, 30, .inl f_503))] H := hP
                                                have hD : va_D A [(h0, .inr (1, [.ref h3, .ref h5, .ref h7, .ref h9, .ref h11, v0, v1, v2])), (h1, .inr (1, [.ref h2, .ref h4, .ref h6, .ref h8, .ref h10, .int 0, .int 0, .int 0])), (h2, .inl (cI, 264, .inl f3)), (h3, .inl (cI, 264, .inl f_431)), (h4, .inl (cI, 264, .inl f5)), (h5, .inl (cI, 264, .inl f_432)), (h6, .inl (cI, 264, .inl f7)), (h7, .inl (cI, 264, .inl f_433)), (h8, .inl (cJ, 264, .inr (.inl f9))), (h9, .inl (cJ, 264, .inr (.inl f_434))), (h10, .inl (cZ, 30, .inl f11)), (h11, .inl (cZ, 30, .inl f_503))] := hD
                                                refine lv_iinc (v := 23) (lv' := [(2, .int 23), (0, .ref h0), (1, .ref h1)]) hx hb dX1_copy_84 hl (k := 0) rfl (by decide) (by decide) rfl (fun ls hl => ?_)
                                                refine lv_goto (tgt := 66) hx hb dX1_copy_87 (by decide) ?_
                                                refine lv_iload_n hx hb dX1_copy_66 rfl (lv_at hl 0 rfl) ?_
                                                refine lv_bipush (v := 30) hx hb dX1_copy_67 (by decide) ?_
                                                refine lv_icmp_ge (tgt := 90) hx hb dX1_copy_69 (by decide) (fun c_504 => ?_) (fun c_504 => ?_)
                                                · skip
                                                  exact absurd c_504 (by decide)
                                                · skip
                                                  refine lv_aload_n hx hb dX1_copy_72 rfl (lv_at hl 1 rfl) ?_
                                                  refine va_get (D := D) (ci := 1) (v := .ref h11) (C := RX1) (T := TX1) (N := 8) hx hb hts inw_X1_copy_X1 hown hK hP 0 rfl rfl 4 (by decide) (hts (.fieldLink RX1 25 "EarTable$Grid" "sums" "[Z") (by decide +kernel)) (fun _ h9 => h9) rfl dX1_copy_73 ?_
                                                  refine lv_iload_n hx hb dX1_copy_76 rfl (lv_at hl 0 rfl) ?_
                                                  refine lv_aload_n hx hb dX1_copy_77 rfl (lv_at hl 2 rfl) ?_
                                                  refine va_get (D := D) (ci := 1) (v := .ref h10) (C := RX1) (T := TX1) (N := 8) hx hb hts inw_X1_copy_X1 hown hK hP 1 rfl rfl 4 (by decide) (hts (.fieldLink RX1 25 "EarTable$Grid" "sums" "[Z") (by decide +kernel)) (fun _ h9 => h9) rfl dX1_copy_78 ?_
                                                  refine lv_iload_n hx hb dX1_copy_81 rfl (lv_at hl 0 rfl) ?_
                                                  refine va_zald hx hb hK hP 10 2 rfl rfl (kn_in (by decide)) dX1_copy_82 ?_
                                                  refine lv_topi (fun z_505 _ => ?_)
                                                  refine kn_zast hx hb hK hP hD hS 11 2 rfl rfl (kn_in (by decide)) dX1_copy_83 (fun f_506 H locs hP hD hS => ?_)
                                                  have hP : va_P D vwCl [(h0, .inr (1, [.ref h3, .ref h5, .ref h7, .ref h9, .ref h11, v0, v1, v2])), (h1, .inr (1, [.ref h2, .ref h4, .ref h6, .ref h8, .ref h10, .int 0, .int 0, .int 0])), (h2, .inl (cI, 264, .inl f3)), (h3, .inl (cI, 264, .inl f_431)), (h4, .inl (cI, 264, .inl f5)), (h5, .inl (cI, 264, .inl f_432)), (h6, .inl (cI, 264, .inl f7)), (h7, .inl (cI, 264, .inl f_433)), (h8, .inl (cJ, 264, .inr (.inl f9))), (h9, .inl (cJ, 264, .inr (.inl f_434))), (h10, .inl (cZ, 30, .inl f11)), (h11, .inl (cZ, 30, .inl f_506))] H := hP
                                                  have hD : va_D A [(h0, .inr (1, [.ref h3, .ref h5, .ref h7, .ref h9, .ref h11, v0, v1, v2])), (h1, .inr (1, [.ref h2, .ref h4, .ref h6, .ref h8, .ref h10, .int 0, .int 0, .int 0])), (h2, .inl (cI, 264, .inl f3)), (h3, .inl (cI, 264, .inl f_431)), (h4, .inl (cI, 264, .inl f5)), (h5, .inl (cI, 264, .inl f_432)), (h6, .inl (cI, 264, .inl f7)), (h7, .inl (cI, 264, .inl f_433)), (h8, .inl (cJ, 264, .inr (.inl f9))), (h9, .inl (cJ, 264, .inr (.inl f_434))), (h10, .inl (cZ, 30, .inl f11)), (h11, .inl (cZ, 30, .inl f_506))] := hD
                                                  refine lv_iinc (v := 24) (lv' := [(2, .int 24), (0, .ref h0), (1, .ref h1)]) hx hb dX1_copy_84 hl (k := 0) rfl (by decide) (by decide) rfl (fun ls hl => ?_)
                                                  refine lv_goto (tgt := 66) hx hb dX1_copy_87 (by decide) ?_
                                                  refine lv_iload_n hx hb dX1_copy_66 rfl (lv_at hl 0 rfl) ?_
                                                  refine lv_bipush (v := 30) hx hb dX1_copy_67 (by decide) ?_
                                                  refine lv_icmp_ge (tgt := 90) hx hb dX1_copy_69 (by decide) (fun c_507 => ?_) (fun c_507 => ?_)
                                                  · skip
                                                    exact absurd c_507 (by decide)
                                                  · skip
                                                    refine lv_aload_n hx hb dX1_copy_72 rfl (lv_at hl 1 rfl) ?_
                                                    refine va_get (D := D) (ci := 1) (v := .ref h11) (C := RX1) (T := TX1) (N := 8) hx hb hts inw_X1_copy_X1 hown hK hP 0 rfl rfl 4 (by decide) (hts (.fieldLink RX1 25 "EarTable$Grid" "sums" "[Z") (by decide +kernel)) (fun _ h9 => h9) rfl dX1_copy_73 ?_
                                                    refine lv_iload_n hx hb dX1_copy_76 rfl (lv_at hl 0 rfl) ?_
                                                    refine lv_aload_n hx hb dX1_copy_77 rfl (lv_at hl 2 rfl) ?_
                                                    refine va_get (D := D) (ci := 1) (v := .ref h10) (C := RX1) (T := TX1) (N := 8) hx hb hts inw_X1_copy_X1 hown hK hP 1 rfl rfl 4 (by decide) (hts (.fieldLink RX1 25 "EarTable$Grid" "sums" "[Z") (by decide +kernel)) (fun _ h9 => h9) rfl dX1_copy_78 ?_
                                                    refine lv_iload_n hx hb dX1_copy_81 rfl (lv_at hl 0 rfl) ?_
                                                    refine va_zald hx hb hK hP 10 2 rfl rfl (kn_in (by decide)) dX1_copy_82 ?_
                                                    refine lv_topi (fun z_508 _ => ?_)
                                                    refine kn_zast hx hb hK hP hD hS 11 2 rfl rfl (kn_in (by decide)) dX1_copy_83 (fun f_509 H locs hP hD hS => ?_)
                                                    have hP : va_P D vwCl [(h0, .inr (1, [.ref h3, .ref h5, .ref h7, .ref h9, .ref h11, v0, v1, v2])), (h1, .inr (1, [.ref h2, .ref h4, .ref h6, .ref h8, .ref h10, .int 0, .int 0, .int 0])), (h2, .inl (cI, 264, .inl f3)), (h3, .inl (cI, 264, .inl f_431)), (h4, .inl (cI, 264, .inl f5)), (h5, .inl (cI, 264, .inl f_432)), (h6, .inl (cI, 264, .inl f7)), (h7, .inl (cI, 264, .inl f_433)), (h8, .inl (cJ, 264, .inr (.inl f9))), (h9, .inl (cJ, 264, .inr (.inl f_434))), (h10, .inl (cZ, 30, .inl f11)), (h11, .inl (cZ, 30, .inl f_509))] H := hP
                                                    have hD : va_D A [(h0, .inr (1, [.ref h3, .ref h5, .ref h7, .ref h9, .ref h11, v0, v1, v2])), (h1, .inr (1, [.ref h2, .ref h4, .ref h6, .ref h8, .ref h10, .int 0, .int 0, .int 0])), (h2, .inl (cI, 264, .inl f3)), (h3, .inl (cI, 264, .inl f_431)), (h4, .inl (cI, 264, .inl f5)), (h5, .inl (cI, 264, .inl f_432)), (h6, .inl (cI, 264, .inl f7)), (h7, .inl (cI, 264, .inl f_433)), (h8, .inl (cJ, 264, .inr (.inl f9))), (h9, .inl (cJ, 264, .inr (.inl f_434))), (h10, .inl (cZ, 30, .inl f11)), (h11, .inl (cZ, 30, .inl f_509))] := hD
                                                    refine lv_iinc (v := 25) (lv' := [(2, .int 25), (0, .ref h0), (1, .ref h1)]) hx hb dX1_copy_84 hl (k := 0) rfl (by decide) (by decide) rfl (fun ls hl => ?_)
                                                    refine lv_goto (tgt := 66) hx hb dX1_copy_87 (by decide) ?_
                                                    refine lv_iload_n hx hb dX1_copy_66 rfl (lv_at hl 0 rfl) ?_
                                                    refine lv_bipush (v := 30) hx hb dX1_copy_67 (by decide) ?_
                                                    refine lv_icmp_ge (tgt := 90) hx hb dX1_copy_69 (by decide) (fun c_510 => ?_) (fun c_510 => ?_)
                                                    · skip
                                                      exact absurd c_510 (by decide)
                                                    · skip
                                                      refine lv_aload_n hx hb dX1_copy_72 rfl (lv_at hl 1 rfl) ?_
                                                      refine va_get (D := D) (ci := 1) (v := .ref h11) (C := RX1) (T := TX1) (N := 8) hx hb hts inw_X1_copy_X1 hown hK hP 0 rfl rfl 4 (by decide) (hts (.fieldLink RX1 25 "EarTable$Grid" "sums" "[Z") (by decide +kernel)) (fun _ h9 => h9) rfl dX1_copy_73 ?_
                                                      refine lv_iload_n hx hb dX1_copy_76 rfl (lv_at hl 0 rfl) ?_
                                                      refine lv_aload_n hx hb dX1_copy_77 rfl (lv_at hl 2 rfl) ?_
                                                      refine va_get (D := D) (ci := 1) (v := .ref h10) (C := RX1) (T := TX1) (N := 8) hx hb hts inw_X1_copy_X1 hown hK hP 1 rfl rfl 4 (by decide) (hts (.fieldLink RX1 25 "EarTable$Grid" "sums" "[Z") (by decide +kernel)) (fun _ h9 => h9) rfl dX1_copy_78 ?_
                                                      refine lv_iload_n hx hb dX1_copy_81 rfl (lv_at hl 0 rfl) ?_
                                                      refine va_zald hx hb hK hP 10 2 rfl rfl (kn_in (by decide)) dX1_copy_82 ?_
                                                      refine lv_topi (fun z_511 _ => ?_)
                                                      refine kn_zast hx hb hK hP hD hS 11 2 rfl rfl (kn_in (by decide)) dX1_copy_83 (fun f_512 H locs hP hD hS => ?_)
                                                      have hP : va_P D vwCl [(h0, .inr (1, [.ref h3, .ref h5, .ref h7, .ref h9, .ref h11, v0, v1, v2])), (h1, .inr (1, [.ref h2, .ref h4, .ref h6, .ref h8, .ref h10, .int 0, .int 0, .int 0])), (h2, .inl (cI, 264, .inl f3)), (h3, .inl (cI, 264, .inl f_431)), (h4, .inl (cI, 264, .inl f5)), (h5, .inl (cI, 264, .inl f_432)), (h6, .inl (cI, 264, .inl f7)), (h7, .inl (cI, 264, .inl f_433)), (h8, .inl (cJ, 264, .inr (.inl f9))), (h9, .inl (cJ, 264, .inr (.inl f_434))), (h10, .inl (cZ, 30, .inl f11)), (h11, .inl (cZ, 30, .inl f_512))] H := hP
                                                      have hD : va_D A [(h0, .inr (1, [.ref h3, .ref h5, .ref h7, .ref h9, .ref h11, v0, v1, v2])), (h1, .inr (1, [.ref h2, .ref h4, .ref h6, .ref h8, .ref h10, .int 0, .int 0, .int 0])), (h2, .inl (cI, 264, .inl f3)), (h3, .inl (cI, 264, .inl f_431)), (h4, .inl (cI, 264, .inl f5)), (h5, .inl (cI, 264, .inl f_432)), (h6, .inl (cI, 264, .inl f7)), (h7, .inl (cI, 264, .inl f_433)), (h8, .inl (cJ, 264, .inr (.inl f9))), (h9, .inl (cJ, 264, .inr (.inl f_434))), (h10, .inl (cZ, 30, .inl f11)), (h11, .inl (cZ, 30, .inl f_512))] := hD
                                                      refine lv_iinc (v := 26) (lv' := [(2, .int 26), (0, .ref h0), (1, .ref h1)]) hx hb dX1_copy_84 hl (k := 0) rfl (by decide) (by decide) rfl (fun ls hl => ?_)
                                                      refine lv_goto (tgt := 66) hx hb dX1_copy_87 (by decide) ?_
                                                      refine lv_iload_n hx hb dX1_copy_66 rfl (lv_at hl 0 rfl) ?_
                                                      refine lv_bipush (v := 30) hx hb dX1_copy_67 (by decide) ?_
                                                      refine lv_icmp_ge (tgt := 90) hx hb dX1_copy_69 (by decide) (fun c_513 => ?_) (fun c_513 => ?_)
                                                      · skip
                                                        exact absurd c_513 (by decide)
                                                      · skip
                                                        refine lv_aload_n hx hb dX1_copy_72 rfl (lv_at hl 1 rfl) ?_
                                                        refine va_get (D := D) (ci := 1) (v := .ref h11) (C := RX1) (T := TX1) (N := 8) hx hb hts inw_X1_copy_X1 hown hK hP 0 rfl rfl 4 (by decide) (hts (.fieldLink RX1 25 "EarTable$Grid" "sums" "[Z") (by decide +kernel)) (fun _ h9 => h9) rfl dX1_copy_73 ?_
                                                        refine lv_iload_n hx hb dX1_copy_76 rfl (lv_at hl 0 rfl) ?_
                                                        refine lv_aload_n hx hb dX1_copy_77 rfl (lv_at hl 2 rfl) ?_
                                                        refine va_get (D := D) (ci := 1) (v := .ref h10) (C := RX1) (T := TX1) (N := 8) hx hb hts inw_X1_copy_X1 hown hK hP 1 rfl rfl 4 (by decide) (hts (.fieldLink RX1 25 "EarTable$Grid" "sums" "[Z") (by decide +kernel)) (fun _ h9 => h9) rfl dX1_copy_78 ?_
                                                        refine lv_iload_n hx hb dX1_copy_81 rfl (lv_at hl 0 rfl) ?_
                                                        refine va_zald hx hb hK hP 10 2 rfl rfl (kn_in (by decide)) dX1_copy_82 ?_
                                                        refine lv_topi (fun z_514 _ => ?_)
                                                        refine kn_zast hx hb hK hP hD hS 11 2 rfl rfl (kn_in (by decide)) dX1_copy_83 (fun f_515 H locs hP hD hS => ?_)
                                                        have hP : va_P D vwCl [(h0, .inr (1, [.ref h3, .ref h5, .ref h7, .ref h9, .ref h11, v0, v1, v2])), (h1, .inr (1, [.ref h2, .ref h4, .ref h6, .ref h8, .ref h10, .int 0, .int 0, .int 0])), (h2, .inl (cI, 264, .inl f3)), (h3, .inl (cI, 264, .inl f_431)), (h4, .inl (cI, 264, .inl f5)), (h5, .inl (cI, 264, .inl f_432)), (h6, .inl (cI, 264, .inl f7)), (h7, .inl (cI, 264, .inl f_433)), (h8, .inl (cJ, 264, .inr (.inl f9))), (h9, .inl (cJ, 264, .inr (.inl f_434))), (h10, .inl (cZ, 30, .inl f11)), (h11, .inl (cZ, 30, .inl f_515))] H := hP
                                                        have hD : va_D A [(h0, .inr (1, [.ref h3, .ref h5, .ref h7, .ref h9, .ref h11, v0, v1, v2])), (h1, .inr (1, [.ref h2, .ref h4, .ref h6, .ref h8, .ref h10, .int 0, .int 0, .int 0])), (h2, .inl (cI, 264, .inl f3)), (h3, .inl (cI, 264, .inl f_431)), (h4, .inl (cI, 264, .inl f5)), (h5, .inl (cI, 264, .inl f_432)), (h6, .inl (cI, 264, .inl f7)), (h7, .inl (cI, 264, .inl f_433)), (h8, .inl (cJ, 264, .inr (.inl f9))), (h9, .inl (cJ, 264, .inr (.inl f_434))), (h10, .inl (cZ, 30, .inl f11)), (h11, .inl (cZ, 30, .inl f_515))] := hD
                                                        refine lv_iinc (v := 27) (lv' := [(2, .int 27), (0, .ref h0), (1, .ref h1)]) hx hb dX1_copy_84 hl (k := 0) rfl (by decide) (by decide) rfl (fun ls hl => ?_)
                                                        refine lv_goto (tgt := 66) hx hb dX1_copy_87 (by decide) ?_
                                                        refine lv_iload_n hx hb dX1_copy_66 rfl (lv_at hl 0 rfl) ?_
                                                        refine lv_bipush (v := 30) hx hb dX1_copy_67 (by decide) ?_
                                                        refine lv_icmp_ge (tgt := 90) hx hb dX1_copy_69 (by decide) (fun c_516 => ?_) (fun c_516 => ?_)
                                                        · skip
                                                          exact absurd c_516 (by decide)
                                                        · skip
                                                          refine lv_aload_n hx hb dX1_copy_72 rfl (lv_at hl 1 rfl) ?_
                                                          refine va_get (D := D) (ci := 1) (v := .ref h11) (C := RX1) (T := TX1) (N := 8) hx hb hts inw_X1_copy_X1 hown hK hP 0 rfl rfl 4 (by decide) (hts (.fieldLink RX1 25 "EarTable$Grid" "sums" "[Z") (by decide +kernel)) (fun _ h9 => h9) rfl dX1_copy_73 ?_
                                                          refine lv_iload_n hx hb dX1_copy_76 rfl (lv_at hl 0 rfl) ?_
                                                          refine lv_aload_n hx hb dX1_copy_77 rfl (lv_at hl 2 rfl) ?_
                                                          refine va_get (D := D) (ci := 1) (v := .ref h10) (C := RX1) (T := TX1) (N := 8) hx hb hts inw_X1_copy_X1 hown hK hP 1 rfl rfl 4 (by decide) (hts (.fieldLink RX1 25 "EarTable$Grid" "sums" "[Z") (by decide +kernel)) (fun _ h9 => h9) rfl dX1_copy_78 ?_
                                                          refine lv_iload_n hx hb dX1_copy_81 rfl (lv_at hl 0 rfl) ?_
                                                          refine va_zald hx hb hK hP 10 2 rfl rfl (kn_in (by decide)) dX1_copy_82 ?_
                                                          refine lv_topi (fun z_517 _ => ?_)
                                                          refine kn_zast hx hb hK hP hD hS 11 2 rfl rfl (kn_in (by decide)) dX1_copy_83 (fun f_518 H locs hP hD hS => ?_)
                                                          have hP : va_P D vwCl [(h0, .inr (1, [.ref h3, .ref h5, .ref h7, .ref h9, .ref h11, v0, v1, v2])), (h1, .inr (1, [.ref h2, .ref h4, .ref h6, .ref h8, .ref h10, .int 0, .int 0, .int 0])), (h2, .inl (cI, 264, .inl f3)), (h3, .inl (cI, 264, .inl f_431)), (h4, .inl (cI, 264, .inl f5)), (h5, .inl (cI, 264, .inl f_432)), (h6, .inl (cI, 264, .inl f7)), (h7, .inl (cI, 264, .inl f_433)), (h8, .inl (cJ, 264, .inr (.inl f9))), (h9, .inl (cJ, 264, .inr (.inl f_434))), (h10, .inl (cZ, 30, .inl f11)), (h11, .inl (cZ, 30, .inl f_518))] H := hP
                                                          have hD : va_D A [(h0, .inr (1, [.ref h3, .ref h5, .ref h7, .ref h9, .ref h11, v0, v1, v2])), (h1, .inr (1, [.ref h2, .ref h4, .ref h6, .ref h8, .ref h10, .int 0, .int 0, .int 0])), (h2, .inl (cI, 264, .inl f3)), (h3, .inl (cI, 264, .inl f_431)), (h4, .inl (cI, 264, .inl f5)), (h5, .inl (cI, 264, .inl f_432)), (h6, .inl (cI, 264, .inl f7)), (h7, .inl (cI, 264, .inl f_433)), (h8, .inl (cJ, 264, .inr (.inl f9))), (h9, .inl (cJ, 264, .inr (.inl f_434))), (h10, .inl (cZ, 30, .inl f11)), (h11, .inl (cZ, 30, .inl f_518))] := hD
                                                          refine lv_iinc (v := 28) (lv' := [(2, .int 28), (0, .ref h0), (1, .ref h1)]) hx hb dX1_copy_84 hl (k := 0) rfl (by decide) (by decide) rfl (fun ls hl => ?_)
                                                          refine lv_goto (tgt := 66) hx hb dX1_copy_87 (by decide) ?_
                                                          refine lv_iload_n hx hb dX1_copy_66 rfl (lv_at hl 0 rfl) ?_
                                                          refine lv_bipush (v := 30) hx hb dX1_copy_67 (by decide) ?_
                                                          refine lv_icmp_ge (tgt := 90) hx hb dX1_copy_69 (by decide) (fun c_519 => ?_) (fun c_519 => ?_)
                                                          · skip
                                                            exact absurd c_519 (by decide)
                                                          · skip
                                                            refine lv_aload_n hx hb dX1_copy_72 rfl (lv_at hl 1 rfl) ?_
                                                            refine va_get (D := D) (ci := 1) (v := .ref h11) (C := RX1) (T := TX1) (N := 8) hx hb hts inw_X1_copy_X1 hown hK hP 0 rfl rfl 4 (by decide) (hts (.fieldLink RX1 25 "EarTable$Grid" "sums" "[Z") (by decide +kernel)) (fun _ h9 => h9) rfl dX1_copy_73 ?_
                                                            refine lv_iload_n hx hb dX1_copy_76 rfl (lv_at hl 0 rfl) ?_
                                                            refine lv_aload_n hx hb dX1_copy_77 rfl (lv_at hl 2 rfl) ?_
                                                            refine va_get (D := D) (ci := 1) (v := .ref h10) (C := RX1) (T := TX1) (N := 8) hx hb hts inw_X1_copy_X1 hown hK hP 1 rfl rfl 4 (by decide) (hts (.fieldLink RX1 25 "EarTable$Grid" "sums" "[Z") (by decide +kernel)) (fun _ h9 => h9) rfl dX1_copy_78 ?_
                                                            refine lv_iload_n hx hb dX1_copy_81 rfl (lv_at hl 0 rfl) ?_
                                                            refine va_zald hx hb hK hP 10 2 rfl rfl (kn_in (by decide)) dX1_copy_82 ?_
                                                            refine lv_topi (fun z_520 _ => ?_)
                                                            refine kn_zast hx hb hK hP hD hS 11 2 rfl rfl (kn_in (by decide)) dX1_copy_83 (fun f_521 H locs hP hD hS => ?_)
                                                            have hP : va_P D vwCl [(h0, .inr (1, [.ref h3, .ref h5, .ref h7, .ref h9, .ref h11, v0, v1, v2])), (h1, .inr (1, [.ref h2, .ref h4, .ref h6, .ref h8, .ref h10, .int 0, .int 0, .int 0])), (h2, .inl (cI, 264, .inl f3)), (h3, .inl (cI, 264, .inl f_431)), (h4, .inl (cI, 264, .inl f5)), (h5, .inl (cI, 264, .inl f_432)), (h6, .inl (cI, 264, .inl f7)), (h7, .inl (cI, 264, .inl f_433)), (h8, .inl (cJ, 264, .inr (.inl f9))), (h9, .inl (cJ, 264, .inr (.inl f_434))), (h10, .inl (cZ, 30, .inl f11)), (h11, .inl (cZ, 30, .inl f_521))] H := hP
                                                            have hD : va_D A [(h0, .inr (1, [.ref h3, .ref h5, .ref h7, .ref h9, .ref h11, v0, v1, v2])), (h1, .inr (1, [.ref h2, .ref h4, .ref h6, .ref h8, .ref h10, .int 0, .int 0, .int 0])), (h2, .inl (cI, 264, .inl f3)), (h3, .inl (cI, 264, .inl f_431)), (h4, .inl (cI, 264, .inl f5)), (h5, .inl (cI, 264, .inl f_432)), (h6, .inl (cI, 264, .inl f7)), (h7, .inl (cI, 264, .inl f_433)), (h8, .inl (cJ, 264, .inr (.inl f9))), (h9, .inl (cJ, 264, .inr (.inl f_434))), (h10, .inl (cZ, 30, .inl f11)), (h11, .inl (cZ, 30, .inl f_521))] := hD
                                                            refine lv_iinc (v := 29) (lv' := [(2, .int 29), (0, .ref h0), (1, .ref h1)]) hx hb dX1_copy_84 hl (k := 0) rfl (by decide) (by decide) rfl (fun ls hl => ?_)
                                                            refine lv_goto (tgt := 66) hx hb dX1_copy_87 (by decide) ?_
                                                            refine lv_iload_n hx hb dX1_copy_66 rfl (lv_at hl 0 rfl) ?_
                                                            refine lv_bipush (v := 30) hx hb dX1_copy_67 (by decide) ?_
                                                            refine lv_icmp_ge (tgt := 90) hx hb dX1_copy_69 (by decide) (fun c_522 => ?_) (fun c_522 => ?_)
                                                            · skip
                                                              exact absurd c_522 (by decide)
                                                            · skip
                                                              refine lv_aload_n hx hb dX1_copy_72 rfl (lv_at hl 1 rfl) ?_
                                                              refine va_get (D := D) (ci := 1) (v := .ref h11) (C := RX1) (T := TX1) (N := 8) hx hb hts inw_X1_copy_X1 hown hK hP 0 rfl rfl 4 (by decide) (hts (.fieldLink RX1 25 "EarTable$Grid" "sums" "[Z") (by decide +kernel)) (fun _ h9 => h9) rfl dX1_copy_73 ?_
                                                              refine lv_iload_n hx hb dX1_copy_76 rfl (lv_at hl 0 rfl) ?_
                                                              refine lv_aload_n hx hb dX1_copy_77 rfl (lv_at hl 2 rfl) ?_
                                                              refine va_get (D := D) (ci := 1) (v := .ref h10) (C := RX1) (T := TX1) (N := 8) hx hb hts inw_X1_copy_X1 hown hK hP 1 rfl rfl 4 (by decide) (hts (.fieldLink RX1 25 "EarTable$Grid" "sums" "[Z") (by decide +kernel)) (fun _ h9 => h9) rfl dX1_copy_78 ?_
                                                              refine lv_iload_n hx hb dX1_copy_81 rfl (lv_at hl 0 rfl) ?_
                                                              refine va_zald hx hb hK hP 10 2 rfl rfl (kn_in (by decide)) dX1_copy_82 ?_
                                                              refine lv_topi (fun z_523 _ => ?_)
                                                              refine kn_zast hx hb hK hP hD hS 11 2 rfl rfl (kn_in (by decide)) dX1_copy_83 (fun f_524 H locs hP hD hS => ?_)
                                                              have hP : va_P D vwCl [(h0, .inr (1, [.ref h3, .ref h5, .ref h7, .ref h9, .ref h11, v0, v1, v2])), (h1, .inr (1, [.ref h2, .ref h4, .ref h6, .ref h8, .ref h10, .int 0, .int 0, .int 0])), (h2, .inl (cI, 264, .inl f3)), (h3, .inl (cI, 264, .inl f_431)), (h4, .inl (cI, 264, .inl f5)), (h5, .inl (cI, 264, .inl f_432)), (h6, .inl (cI, 264, .inl f7)), (h7, .inl (cI, 264, .inl f_433)), (h8, .inl (cJ, 264, .inr (.inl f9))), (h9, .inl (cJ, 264, .inr (.inl f_434))), (h10, .inl (cZ, 30, .inl f11)), (h11, .inl (cZ, 30, .inl f_524))] H := hP
                                                              have hD : va_D A [(h0, .inr (1, [.ref h3, .ref h5, .ref h7, .ref h9, .ref h11, v0, v1, v2])), (h1, .inr (1, [.ref h2, .ref h4, .ref h6, .ref h8, .ref h10, .int 0, .int 0, .int 0])), (h2, .inl (cI, 264, .inl f3)), (h3, .inl (cI, 264, .inl f_431)), (h4, .inl (cI, 264, .inl f5)), (h5, .inl (cI, 264, .inl f_432)), (h6, .inl (cI, 264, .inl f7)), (h7, .inl (cI, 264, .inl f_433)), (h8, .inl (cJ, 264, .inr (.inl f9))), (h9, .inl (cJ, 264, .inr (.inl f_434))), (h10, .inl (cZ, 30, .inl f11)), (h11, .inl (cZ, 30, .inl f_524))] := hD
                                                              refine lv_iinc (v := 30) (lv' := [(2, .int 30), (0, .ref h0), (1, .ref h1)]) hx hb dX1_copy_84 hl (k := 0) rfl (by decide) (by decide) rfl (fun ls hl => ?_)
                                                              refine lv_goto (tgt := 66) hx hb dX1_copy_87 (by decide) ?_
                                                              refine lv_iload_n hx hb dX1_copy_66 rfl (lv_at hl 0 rfl) ?_
                                                              refine lv_bipush (v := 30) hx hb dX1_copy_67 (by decide) ?_
                                                              refine lv_icmp_ge (tgt := 90) hx hb dX1_copy_69 (by decide) (fun c_525 => ?_) (fun c_525 => ?_)
                                                              · skip
                                                                refine lv_aload_n hx hb dX1_copy_90 rfl (lv_at hl 1 rfl) ?_
                                                                refine lv_aload_n hx hb dX1_copy_91 rfl (lv_at hl 2 rfl) ?_
                                                                refine va_get (D := D) (ci := 1) (v := .int 0) (C := RX1) (T := TX1) (N := 8) hx hb hts inw_X1_copy_X1 hown hK hP 1 rfl rfl 5 (by decide) (hts (.fieldLink RX1 35 "EarTable$Grid" "columns" "I") (by decide +kernel)) (fun _ h9 => h9) rfl dX1_copy_92 ?_
                                                                refine va_put (D := D) (ci := 1) (v := .int 0) (ty := .int) (C := RX1) (T := TX1) (N := 8) hx hb hts inw_X1_copy_X1 tyX1 tyX1_ok nmX1 hown hK hP hD hS 0 rfl rfl 5 (by decide) (hts (.fieldLink RX1 35 "EarTable$Grid" "columns" "I") (by decide +kernel)) (fun _ h9 => h9) rfl (by decide +kernel) rfl rfl (Nat.le_of_ble_eq_true rfl) dX1_copy_95 (fun H locs hP hD hS => ?_)
                                                                have hP : va_P D vwCl [(h0, .inr (1, [.ref h3, .ref h5, .ref h7, .ref h9, .ref h11, .int 0, v1, v2])), (h1, .inr (1, [.ref h2, .ref h4, .ref h6, .ref h8, .ref h10, .int 0, .int 0, .int 0])), (h2, .inl (cI, 264, .inl f3)), (h3, .inl (cI, 264, .inl f_431)), (h4, .inl (cI, 264, .inl f5)), (h5, .inl (cI, 264, .inl f_432)), (h6, .inl (cI, 264, .inl f7)), (h7, .inl (cI, 264, .inl f_433)), (h8, .inl (cJ, 264, .inr (.inl f9))), (h9, .inl (cJ, 264, .inr (.inl f_434))), (h10, .inl (cZ, 30, .inl f11)), (h11, .inl (cZ, 30, .inl f_524))] H := hP
                                                                have hD : va_D A [(h0, .inr (1, [.ref h3, .ref h5, .ref h7, .ref h9, .ref h11, .int 0, v1, v2])), (h1, .inr (1, [.ref h2, .ref h4, .ref h6, .ref h8, .ref h10, .int 0, .int 0, .int 0])), (h2, .inl (cI, 264, .inl f3)), (h3, .inl (cI, 264, .inl f_431)), (h4, .inl (cI, 264, .inl f5)), (h5, .inl (cI, 264, .inl f_432)), (h6, .inl (cI, 264, .inl f7)), (h7, .inl (cI, 264, .inl f_433)), (h8, .inl (cJ, 264, .inr (.inl f9))), (h9, .inl (cJ, 264, .inr (.inl f_434))), (h10, .inl (cZ, 30, .inl f11)), (h11, .inl (cZ, 30, .inl f_524))] := hD
                                                                refine lv_aload_n hx hb dX1_copy_98 rfl (lv_at hl 1 rfl) ?_
                                                                refine lv_aload_n hx hb dX1_copy_99 rfl (lv_at hl 2 rfl) ?_
                                                                refine va_get (D := D) (ci := 1) (v := .int 0) (C := RX1) (T := TX1) (N := 8) hx hb hts inw_X1_copy_X1 hown hK hP 1 rfl rfl 6 (by decide) (hts (.fieldLink RX1 39 "EarTable$Grid" "lines" "I") (by decide +kernel)) (fun _ h9 => h9) rfl dX1_copy_100 ?_
                                                                refine va_put (D := D) (ci := 1) (v := .int 0) (ty := .int) (C := RX1) (T := TX1) (N := 8) hx hb hts inw_X1_copy_X1 tyX1 tyX1_ok nmX1 hown hK hP hD hS 0 rfl rfl 6 (by decide) (hts (.fieldLink RX1 39 "EarTable$Grid" "lines" "I") (by decide +kernel)) (fun _ h9 => h9) rfl (by decide +kernel) rfl rfl (Nat.le_of_ble_eq_true rfl) dX1_copy_103 (fun H locs hP hD hS => ?_)
                                                                have hP : va_P D vwCl [(h0, .inr (1, [.ref h3, .ref h5, .ref h7, .ref h9, .ref h11, .int 0, .int 0, v2])), (h1, .inr (1, [.ref h2, .ref h4, .ref h6, .ref h8, .ref h10, .int 0, .int 0, .int 0])), (h2, .inl (cI, 264, .inl f3)), (h3, .inl (cI, 264, .inl f_431)), (h4, .inl (cI, 264, .inl f5)), (h5, .inl (cI, 264, .inl f_432)), (h6, .inl (cI, 264, .inl f7)), (h7, .inl (cI, 264, .inl f_433)), (h8, .inl (cJ, 264, .inr (.inl f9))), (h9, .inl (cJ, 264, .inr (.inl f_434))), (h10, .inl (cZ, 30, .inl f11)), (h11, .inl (cZ, 30, .inl f_524))] H := hP
                                                                have hD : va_D A [(h0, .inr (1, [.ref h3, .ref h5, .ref h7, .ref h9, .ref h11, .int 0, .int 0, v2])), (h1, .inr (1, [.ref h2, .ref h4, .ref h6, .ref h8, .ref h10, .int 0, .int 0, .int 0])), (h2, .inl (cI, 264, .inl f3)), (h3, .inl (cI, 264, .inl f_431)), (h4, .inl (cI, 264, .inl f5)), (h5, .inl (cI, 264, .inl f_432)), (h6, .inl (cI, 264, .inl f7)), (h7, .inl (cI, 264, .inl f_433)), (h8, .inl (cJ, 264, .inr (.inl f9))), (h9, .inl (cJ, 264, .inr (.inl f_434))), (h10, .inl (cZ, 30, .inl f11)), (h11, .inl (cZ, 30, .inl f_524))] := hD
                                                                refine lv_aload_n hx hb dX1_copy_106 rfl (lv_at hl 1 rfl) ?_
                                                                refine lv_aload_n hx hb dX1_copy_107 rfl (lv_at hl 2 rfl) ?_
                                                                refine va_get (D := D) (ci := 1) (v := .int 0) (C := RX1) (T := TX1) (N := 8) hx hb hts inw_X1_copy_X1 hown hK hP 1 rfl rfl 7 (by decide) (hts (.fieldLink RX1 42 "EarTable$Grid" "levels" "I") (by decide +kernel)) (fun _ h9 => h9) rfl dX1_copy_108 ?_
                                                                refine va_put (D := D) (ci := 1) (v := .int 0) (ty := .int) (C := RX1) (T := TX1) (N := 8) hx hb hts inw_X1_copy_X1 tyX1 tyX1_ok nmX1 hown hK hP hD hS 0 rfl rfl 7 (by decide) (hts (.fieldLink RX1 42 "EarTable$Grid" "levels" "I") (by decide +kernel)) (fun _ h9 => h9) rfl (by decide +kernel) rfl rfl (Nat.le_of_ble_eq_true rfl) dX1_copy_111 (fun H locs hP hD hS => ?_)
                                                                have hP : va_P D vwCl [(h0, .inr (1, [.ref h3, .ref h5, .ref h7, .ref h9, .ref h11, .int 0, .int 0, .int 0])), (h1, .inr (1, [.ref h2, .ref h4, .ref h6, .ref h8, .ref h10, .int 0, .int 0, .int 0])), (h2, .inl (cI, 264, .inl f3)), (h3, .inl (cI, 264, .inl f_431)), (h4, .inl (cI, 264, .inl f5)), (h5, .inl (cI, 264, .inl f_432)), (h6, .inl (cI, 264, .inl f7)), (h7, .inl (cI, 264, .inl f_433)), (h8, .inl (cJ, 264, .inr (.inl f9))), (h9, .inl (cJ, 264, .inr (.inl f_434))), (h10, .inl (cZ, 30, .inl f11)), (h11, .inl (cZ, 30, .inl f_524))] H := hP
                                                                have hD : va_D A [(h0, .inr (1, [.ref h3, .ref h5, .ref h7, .ref h9, .ref h11, .int 0, .int 0, .int 0])), (h1, .inr (1, [.ref h2, .ref h4, .ref h6, .ref h8, .ref h10, .int 0, .int 0, .int 0])), (h2, .inl (cI, 264, .inl f3)), (h3, .inl (cI, 264, .inl f_431)), (h4, .inl (cI, 264, .inl f5)), (h5, .inl (cI, 264, .inl f_432)), (h6, .inl (cI, 264, .inl f7)), (h7, .inl (cI, 264, .inl f_433)), (h8, .inl (cJ, 264, .inr (.inl f9))), (h9, .inl (cJ, 264, .inr (.inl f_434))), (h10, .inl (cZ, 30, .inl f11)), (h11, .inl (cZ, 30, .inl f_524))] := hD
                                                                have hP9 := hP.sub (ws' := [(h0, .inr (1, [.ref h3, .ref h5, .ref h7, .ref h9, .ref h11, .int 0, .int 0, .int 0])), (h1, .inr (1, [.ref h2, .ref h4, .ref h6, .ref h8, .ref h10, .int 0, .int 0, .int 0])), (h2, .inl (cI, 264, .inl f3)), (h3, .inl (cI, 264, .inl f_431)), (h4, .inl (cI, 264, .inl f5)), (h5, .inl (cI, 264, .inl f_432)), (h6, .inl (cI, 264, .inl f7)), (h7, .inl (cI, 264, .inl f_433)), (h8, .inl (cJ, 264, .inr (.inl f9))), (h9, .inl (cJ, 264, .inr (.inl f_434))), (h10, .inl (cZ, 30, .inl f11)), (h11, .inl (cZ, 30, .inl f_524))]) [0, 1, 2, 3, 4, 5, 6, 7, 8, 9, 10, 11] rfl
                                                                have hD9 := hD.sub (ws' := [(h0, .inr (1, [.ref h3, .ref h5, .ref h7, .ref h9, .ref h11, .int 0, .int 0, .int 0])), (h1, .inr (1, [.ref h2, .ref h4, .ref h6, .ref h8, .ref h10, .int 0, .int 0, .int 0])), (h2, .inl (cI, 264, .inl f3)), (h3, .inl (cI, 264, .inl f_431)), (h4, .inl (cI, 264, .inl f5)), (h5, .inl (cI, 264, .inl f_432)), (h6, .inl (cI, 264, .inl f7)), (h7, .inl (cI, 264, .inl f_433)), (h8, .inl (cJ, 264, .inr (.inl f9))), (h9, .inl (cJ, 264, .inr (.inl f_434))), (h10, .inl (cZ, 30, .inl f11)), (h11, .inl (cZ, 30, .inl f_524))]) [0, 1, 2, 3, 4, 5, 6, 7, 8, 9, 10, 11] (by decide) rfl
                                                                exact W.vret hx hb hr (fun t ht hW => ⟨⟨(f_431, f_432, f_433, f_434, f_524), rfl, trivial, by rw [ht]; exact hP9, hD9⟩, hS.F ht⟩) hS.2.2 dX1_copy_114
                                                              · skip
                                                                exact absurd rfl c_525
