def o_X10_init : List Cond := [.methodLink RX10 3 objectInit, .instanceMethod objectInit, .code objectInit ⟨#[0xb1]⟩ 1 none, .arrayClass .int, .fieldLink RX10 11 "EarTable$Ways" "queue" "[I", .fieldLink RX10 15 "EarTable$Ways" "lengths" "[I", .fieldLink RX10 18 "EarTable$Ways" "openings" "[I", .fieldLink RX10 21 "EarTable$Ways" "steps" "LEarTable$Steps;"]
def u_X10_init : List Cond := .code yX10_init cX10_init 2 none :: (o_X10_init ++ (wsX100 ++ ([] : List Cond)))
theorem inw_X10_init_X10 : ∀ w ∈ wsX100, w ∈ u_X10_init := fun w h => List.mem_cons_of_mem _ (List.mem_append_right _ (List.mem_append_left _ h))
set_option maxRecDepth 20000 in
theorem good_X10_init : u_X10_init.all goodWord = true := by decide +kernel
set_option maxRecDepth 20000 in
theorem in_X10_init : ∀ w ∈ u_X10_init, w ∈ lw_tbl := ma_cons inc_X10_init (ma_app (ma_pos o_X10_init [250, 86, 87, 103, 252, 253, 255, 251] (by decide +kernel)) (ma_app inb_X10 ma_nil))
set_option maxHeartbeats 4000000 in
set_option maxRecDepth 100000 in
theorem c_X10_init (l : Launch) (D : va_G) (cI cJ cZ cB : ClassId) (sz : Nat) (h0 : Nat) (v0 : Value) (v1 : Value) (v2 : Value) (v3 : Value) (v4 : Value) (a1 : Nat) : Met l yX10_init u_X10_init ({ frames := 1, cells := 3, slots := 720, locals := 20 }) (va_Pc [.ref h0, .ref a1] (kPre D cI cJ cZ cB [(h0, .inr (9, [v0, v1, v2, v3, v4]))] sz)) (va_Qv (fun (_ : Nat × Nat × Nat × (Nat → Int32) × (Nat → Int32) × (Nat → Int32)) => True) (kB D (fun (u : Nat × Nat × Nat × (Nat → Int32) × (Nat → Int32) × (Nat → Int32)) => [(h0, .inr (9, [.ref a1, .ref u.1, .ref u.2.1, .ref u.2.2.1, v4])), (u.1, .inl (cI, 240, .inl u.2.2.2.1)), (u.2.1, .inl (cI, 240, .inl u.2.2.2.2.1)), (u.2.2.1, .inl (cI, 240, .inl u.2.2.2.2.2))]) (va_A [(h0, .inr (9, [v0, v1, v2, v3, v4]))] sz)) (va_A [(h0, .inr (9, [v0, v1, v2, v3, v4]))] sz)) 3 720 (va_A [(h0, .inr (9, [v0, v1, v2, v3, v4]))] sz) := by
  refine Met.ofW (cc := cX10_init) (maxL := 2) (ret := none) (by decide) rfl ?_
  intro p e s m args below meth c s₁ B hml hv
  obtain ⟨rfl, hsz, hP, hK, hN, hD0⟩ := hv
  have hx := B.exec
  have hb := B.bytes
  have hr := B.returns
  have hts := atoms_spec (ws := u_X10_init) B.pre
  have hown : s.vm.findClass RX10 = some m.cls := findClass_of_methodNamed B.named
  have hlocks := B.notSynchronized
  have hin : meth.name = "<init>" := (name_of_methodNamed B.named B.method).1
  subst hsz
  have hD := hD0.self (sz := s.heap.size)
  generalize hAe : va_A [(h0, .inr (9, [v0, v1, v2, v3, v4]))] s.heap.size = A at hD ⊢
  have hA : ∀ q : Nat, s.heap.size ≤ q → A q := fun q h => by rw [← hAe]; exact Or.inr h
  have hS : va_S A s.heap s.heap [] := va_S.rf
  have hP : va_P D vwCl [(h0, .inr (9, [v0, v1, v2, v3, v4]))] s.heap := hP
  have hl := lv_entry ([.ref h0, .ref a1]) (n := 2) (Nat.le_of_ble_eq_true rfl)
  rw [lg_entry_eq]
  generalize (lg_sl ([.ref h0, .ref a1]) ++ List.replicate (2 - (lg_sl ([.ref h0, .ref a1])).length) Slot.unset).toArray = ls at hl ⊢
  have hl : lv_has ls 2 [(0, .ref h0), (1, .ref a1)] := hl
  obtain ⟨H, hHe⟩ : ∃ H, s.heap = H := ⟨_, rfl⟩
  have hP : va_P D vwCl [(h0, .inr (9, [v0, v1, v2, v3, v4]))] H := by rw [← hHe]; exact hP
  have hS : va_S A s.heap H [] := by rw [← hHe]; exact hS
  refine kn_heap hHe ?_
  refine lv_aload_n hx hb dX10_init_0 rfl (lv_at hl 0 rfl) ?_
  refine W.objInit hx hb hown (hts (.methodLink RX10 3 objectInit) (by decide +kernel)) (hts (.instanceMethod objectInit) (by decide +kernel)) (hts (.code objectInit ⟨#[0xb1]⟩ 1 none) (by decide +kernel)) rfl (by rw [hml]; exact hl.1) rfl dX10_init_1 (Nat.le_of_ble_eq_true rfl) (Nat.le_of_ble_eq_true rfl) ?_
  refine W.eq (g2 := F0 m 4 ls []) rfl ?_
  refine lv_aload_n hx hb dX10_init_4 rfl (lv_at hl 0 rfl) ?_
  refine lv_sipush (v := 240) hx hb dX10_init_5 (by decide) ?_
  refine kn_newi (ty := .int) (N' := 240) hx hb (hts (.arrayClass .int) (by decide +kernel)) rfl hK hP hD hS hA 0 rfl (fun _ => rfl) (fun _ => rfl) (by decide) (by decide) (by decide) (Nat.le_of_ble_eq_true rfl) (Nat.le_of_ble_eq_true rfl) dX10_init_8 (fun q_61 f_62 H hP hD hS => ?_)
  have hP : va_P D vwCl [(h0, .inr (9, [v0, v1, v2, v3, v4])), (q_61, .inl (cI, 240, .inl f_62))] H := hP
  have hD : va_D A [(h0, .inr (9, [v0, v1, v2, v3, v4])), (q_61, .inl (cI, 240, .inl f_62))] := hD
  refine W.widen (k := 1) (n := 240) (Nat.le_of_ble_eq_true rfl) (Nat.le_of_ble_eq_true rfl) ?_
  refine va_putF (D := D) (ci := 9) (v := .ref q_61) (ty := .array .int) (C := RX10) (T := TX10) (N := 5) hx hb hts inw_X10_init_X10 tyX10 tyX10_ok nmX10 hown hK hP hD hS 0 rfl rfl 1 (by decide) (hts (.fieldLink RX10 11 "EarTable$Ways" "queue" "[I") (by decide +kernel)) (fun _ h9 => h9) rfl hin rfl (by decide +kernel) rfl rfl (Nat.le_of_ble_eq_true rfl) dX10_init_10 (fun H locs hP hD hS => ?_)
  have hP : va_P D vwCl [(h0, .inr (9, [v0, .ref q_61, v2, v3, v4])), (q_61, .inl (cI, 240, .inl f_62))] H := hP
  have hD : va_D A [(h0, .inr (9, [v0, .ref q_61, v2, v3, v4])), (q_61, .inl (cI, 240, .inl f_62))] := hD
  refine lv_aload_n hx hb dX10_init_13 rfl (lv_at hl 0 rfl) ?_
  refine lv_sipush (v := 240) hx hb dX10_init_14 (by decide) ?_
  refine kn_newi (ty := .int) (N' := 240) hx hb (hts (.arrayClass .int) (by decide +kernel)) rfl hK hP hD hS hA 0 rfl (fun _ => rfl) (fun _ => rfl) (by decide) (by decide) (by decide) (Nat.le_of_ble_eq_true rfl) (Nat.le_of_ble_eq_true rfl) dX10_init_17 (fun q_63 f_64 H hP hD hS => ?_)
  have hP : va_P D vwCl [(h0, .inr (9, [v0, .ref q_61, v2, v3, v4])), (q_61, .inl (cI, 240, .inl f_62)), (q_63, .inl (cI, 240, .inl f_64))] H := hP
  have hD : va_D A [(h0, .inr (9, [v0, .ref q_61, v2, v3, v4])), (q_61, .inl (cI, 240, .inl f_62)), (q_63, .inl (cI, 240, .inl f_64))] := hD
  refine W.widen (k := 2) (n := 480) (Nat.le_of_ble_eq_true rfl) (Nat.le_of_ble_eq_true rfl) ?_
  refine va_putF (D := D) (ci := 9) (v := .ref q_63) (ty := .array .int) (C := RX10) (T := TX10) (N := 5) hx hb hts inw_X10_init_X10 tyX10 tyX10_ok nmX10 hown hK hP hD hS 0 rfl rfl 2 (by decide) (hts (.fieldLink RX10 15 "EarTable$Ways" "lengths" "[I") (by decide +kernel)) (fun _ h9 => h9) rfl hin rfl (by decide +kernel) rfl rfl (Nat.le_of_ble_eq_true rfl) dX10_init_19 (fun H locs hP hD hS => ?_)
  have hP : va_P D vwCl [(h0, .inr (9, [v0, .ref q_61, .ref q_63, v3, v4])), (q_61, .inl (cI, 240, .inl f_62)), (q_63, .inl (cI, 240, .inl f_64))] H := hP
  have hD : va_D A [(h0, .inr (9, [v0, .ref q_61, .ref q_63, v3, v4])), (q_61, .inl (cI, 240, .inl f_62)), (q_63, .inl (cI, 240, .inl f_64))] := hD
  refine lv_aload_n hx hb dX10_init_22 rfl (lv_at hl 0 rfl) ?_
  refine lv_sipush (v := 240) hx hb dX10_init_23 (by decide) ?_
  refine kn_newi (ty := .int) (N' := 240) hx hb (hts (.arrayClass .int) (by decide +kernel)) rfl hK hP hD hS hA 0 rfl (fun _ => rfl) (fun _ => rfl) (by decide) (by decide) (by decide) (Nat.le_of_ble_eq_true rfl) (Nat.le_of_ble_eq_true rfl) dX10_init_26 (fun q_65 f_66 H hP hD hS => ?_)
  have hP : va_P D vwCl [(h0, .inr (9, [v0, .ref q_61, .ref q_63, v3, v4])), (q_61, .inl (cI, 240, .inl f_62)), (q_63, .inl (cI, 240, .inl f_64)), (q_65, .inl (cI, 240, .inl f_66))] H := hP
  have hD : va_D A [(h0, .inr (9, [v0, .ref q_61, .ref q_63, v3, v4])), (q_61, .inl (cI, 240, .inl f_62)), (q_63, .inl (cI, 240, .inl f_64)), (q_65, .inl (cI, 240, .inl f_66))] := hD
  refine W.widen (k := 3) (n := 720) (Nat.le_of_ble_eq_true rfl) (Nat.le_of_ble_eq_true rfl) ?_
  refine va_putF (D := D) (ci := 9) (v := .ref q_65) (ty := .array .int) (C := RX10) (T := TX10) (N := 5) hx hb hts inw_X10_init_X10 tyX10 tyX10_ok nmX10 hown hK hP hD hS 0 rfl rfl 3 (by decide) (hts (.fieldLink RX10 18 "EarTable$Ways" "openings" "[I") (by decide +kernel)) (fun _ h9 => h9) rfl hin rfl (by decide +kernel) rfl rfl (Nat.le_of_ble_eq_true rfl) dX10_init_28 (fun H locs hP hD hS => ?_)
  have hP : va_P D vwCl [(h0, .inr (9, [v0, .ref q_61, .ref q_63, .ref q_65, v4])), (q_61, .inl (cI, 240, .inl f_62)), (q_63, .inl (cI, 240, .inl f_64)), (q_65, .inl (cI, 240, .inl f_66))] H := hP
  have hD : va_D A [(h0, .inr (9, [v0, .ref q_61, .ref q_63, .ref q_65, v4])), (q_61, .inl (cI, 240, .inl f_62)), (q_63, .inl (cI, 240, .inl f_64)), (q_65, .inl (cI, 240, .inl f_66))] := hD
  refine lv_aload_n hx hb dX10_init_31 rfl (lv_at hl 0 rfl) ?_
  refine lv_aload_n hx hb dX10_init_32 rfl (lv_at hl 1 rfl) ?_
  refine va_putF (D := D) (ci := 9) (v := .ref a1) (ty := .object "EarTable$Steps") (C := RX10) (T := TX10) (N := 5) hx hb hts inw_X10_init_X10 tyX10 tyX10_ok nmX10 hown hK hP hD hS 0 rfl rfl 0 (by decide) (hts (.fieldLink RX10 21 "EarTable$Ways" "steps" "LEarTable$Steps;") (by decide +kernel)) (fun _ h9 => h9) rfl hin rfl (by decide +kernel) rfl rfl (Nat.le_of_ble_eq_true rfl) dX10_init_33 (fun H locs hP hD hS => ?_)
  have hP : va_P D vwCl [(h0, .inr (9, [.ref a1, .ref q_61, .ref q_63, .ref q_65, v4])), (q_61, .inl (cI, 240, .inl f_62)), (q_63, .inl (cI, 240, .inl f_64)), (q_65, .inl (cI, 240, .inl f_66))] H := hP
  have hD : va_D A [(h0, .inr (9, [.ref a1, .ref q_61, .ref q_63, .ref q_65, v4])), (q_61, .inl (cI, 240, .inl f_62)), (q_63, .inl (cI, 240, .inl f_64)), (q_65, .inl (cI, 240, .inl f_66))] := hD
  have hP9 := hP.sub (ws' := [(h0, .inr (9, [.ref a1, .ref q_61, .ref q_63, .ref q_65, v4])), (q_61, .inl (cI, 240, .inl f_62)), (q_63, .inl (cI, 240, .inl f_64)), (q_65, .inl (cI, 240, .inl f_66))]) [0, 1, 2, 3] rfl
  have hD9 := hD.sub (ws' := [(h0, .inr (9, [.ref a1, .ref q_61, .ref q_63, .ref q_65, v4])), (q_61, .inl (cI, 240, .inl f_62)), (q_63, .inl (cI, 240, .inl f_64)), (q_65, .inl (cI, 240, .inl f_66))]) [0, 1, 2, 3] (by decide) rfl
  exact W.vret hx hb hr (fun t ht hW => ⟨⟨(q_61, q_63, q_65, f_62, f_64, f_66), rfl, trivial, by rw [ht]; exact hP9, hD9⟩, hS.F ht⟩) hS.2.2 dX10_init_36
def o_X4_init : List Cond := [.methodLink RX4 3 objectInit, .instanceMethod objectInit, .code objectInit ⟨#[0xb1]⟩ 1 none, .arrayClass .int, .fieldLink RX4 11 "EarTable$Speech" "kinds" "[I", .fieldLink RX4 15 "EarTable$Speech" "levels" "[I", .fieldLink RX4 18 "EarTable$Speech" "wheres" "[I", .fieldLink RX4 21 "EarTable$Speech" "grid" "LEarTable$Grid;"]
def u_X4_init : List Cond := .code yX4_init cX4_init 2 none :: (o_X4_init ++ (wsX40 ++ ([] : List Cond)))
theorem inw_X4_init_X4 : ∀ w ∈ wsX40, w ∈ u_X4_init := fun w h => List.mem_cons_of_mem _ (List.mem_append_right _ (List.mem_append_left _ h))
set_option maxRecDepth 20000 in
theorem good_X4_init : u_X4_init.all goodWord = true := by decide +kernel
set_option maxRecDepth 20000 in
theorem in_X4_init : ∀ w ∈ u_X4_init, w ∈ lw_tbl := ma_cons inc_X4_init (ma_app (ma_pos o_X4_init [274, 86, 87, 103, 276, 278, 280, 275] (by decide +kernel)) (ma_app inb_X4 ma_nil))
set_option maxHeartbeats 4000000 in
set_option maxRecDepth 100000 in
theorem c_X4_init (l : Launch) (D : va_G) (cI cJ cZ cB : ClassId) (sz : Nat) (h0 : Nat) (v0 : Value) (v1 : Value) (v2 : Value) (v3 : Value) (v4 : Value) (v5 : Value) (v6 : Value) (a1 : Nat) : Met l yX4_init u_X4_init ({ frames := 1, cells := 3, slots := 15, locals := 20 }) (va_Pc [.ref h0, .ref a1] (kPre D cI cJ cZ cB [(h0, .inr (3, [v0, v1, v2, v3, v4, v5, v6]))] sz)) (va_Qv (fun (_ : Nat × Nat × Nat × (Nat → Int32) × (Nat → Int32) × (Nat → Int32)) => True) (kB D (fun (u : Nat × Nat × Nat × (Nat → Int32) × (Nat → Int32) × (Nat → Int32)) => [(h0, .inr (3, [.ref a1, .ref u.1, .ref u.2.1, .ref u.2.2.1, v4, v5, v6])), (u.1, .inl (cI, 5, .inl u.2.2.2.1)), (u.2.1, .inl (cI, 5, .inl u.2.2.2.2.1)), (u.2.2.1, .inl (cI, 5, .inl u.2.2.2.2.2))]) (va_A [(h0, .inr (3, [v0, v1, v2, v3, v4, v5, v6]))] sz)) (va_A [(h0, .inr (3, [v0, v1, v2, v3, v4, v5, v6]))] sz)) 3 15 (va_A [(h0, .inr (3, [v0, v1, v2, v3, v4, v5, v6]))] sz) := by
  refine Met.ofW (cc := cX4_init) (maxL := 2) (ret := none) (by decide) rfl ?_
  intro p e s m args below meth c s₁ B hml hv
  obtain ⟨rfl, hsz, hP, hK, hN, hD0⟩ := hv
  have hx := B.exec
  have hb := B.bytes
  have hr := B.returns
  have hts := atoms_spec (ws := u_X4_init) B.pre
  have hown : s.vm.findClass RX4 = some m.cls := findClass_of_methodNamed B.named
  have hlocks := B.notSynchronized
  have hin : meth.name = "<init>" := (name_of_methodNamed B.named B.method).1
  subst hsz
  have hD := hD0.self (sz := s.heap.size)
  generalize hAe : va_A [(h0, .inr (3, [v0, v1, v2, v3, v4, v5, v6]))] s.heap.size = A at hD ⊢
  have hA : ∀ q : Nat, s.heap.size ≤ q → A q := fun q h => by rw [← hAe]; exact Or.inr h
  have hS : va_S A s.heap s.heap [] := va_S.rf
  have hP : va_P D vwCl [(h0, .inr (3, [v0, v1, v2, v3, v4, v5, v6]))] s.heap := hP
  have hl := lv_entry ([.ref h0, .ref a1]) (n := 2) (Nat.le_of_ble_eq_true rfl)
  rw [lg_entry_eq]
  generalize (lg_sl ([.ref h0, .ref a1]) ++ List.replicate (2 - (lg_sl ([.ref h0, .ref a1])).length) Slot.unset).toArray = ls at hl ⊢
  have hl : lv_has ls 2 [(0, .ref h0), (1, .ref a1)] := hl
  obtain ⟨H, hHe⟩ : ∃ H, s.heap = H := ⟨_, rfl⟩
  have hP : va_P D vwCl [(h0, .inr (3, [v0, v1, v2, v3, v4, v5, v6]))] H := by rw [← hHe]; exact hP
  have hS : va_S A s.heap H [] := by rw [← hHe]; exact hS
  refine kn_heap hHe ?_
  refine lv_aload_n hx hb dX4_init_0 rfl (lv_at hl 0 rfl) ?_
  refine W.objInit hx hb hown (hts (.methodLink RX4 3 objectInit) (by decide +kernel)) (hts (.instanceMethod objectInit) (by decide +kernel)) (hts (.code objectInit ⟨#[0xb1]⟩ 1 none) (by decide +kernel)) rfl (by rw [hml]; exact hl.1) rfl dX4_init_1 (Nat.le_of_ble_eq_true rfl) (Nat.le_of_ble_eq_true rfl) ?_
  refine W.eq (g2 := F0 m 4 ls []) rfl ?_
  refine lv_aload_n hx hb dX4_init_4 rfl (lv_at hl 0 rfl) ?_
  refine lv_iconst (v := 5) hx hb dX4_init_5 (by decide) ?_
  refine kn_newi (ty := .int) (N' := 5) hx hb (hts (.arrayClass .int) (by decide +kernel)) rfl hK hP hD hS hA 0 rfl (fun _ => rfl) (fun _ => rfl) (by decide) (by decide) (by decide) (Nat.le_of_ble_eq_true rfl) (Nat.le_of_ble_eq_true rfl) dX4_init_6 (fun q_75 f_76 H hP hD hS => ?_)
  have hP : va_P D vwCl [(h0, .inr (3, [v0, v1, v2, v3, v4, v5, v6])), (q_75, .inl (cI, 5, .inl f_76))] H := hP
  have hD : va_D A [(h0, .inr (3, [v0, v1, v2, v3, v4, v5, v6])), (q_75, .inl (cI, 5, .inl f_76))] := hD
  refine W.widen (k := 1) (n := 5) (Nat.le_of_ble_eq_true rfl) (Nat.le_of_ble_eq_true rfl) ?_
  refine va_putF (D := D) (ci := 3) (v := .ref q_75) (ty := .array .int) (C := RX4) (T := TX4) (N := 7) hx hb hts inw_X4_init_X4 tyX4 tyX4_ok nmX4 hown hK hP hD hS 0 rfl rfl 1 (by decide) (hts (.fieldLink RX4 11 "EarTable$Speech" "kinds" "[I") (by decide +kernel)) (fun _ h9 => h9) rfl hin rfl (by decide +kernel) rfl rfl (Nat.le_of_ble_eq_true rfl) dX4_init_8 (fun H locs hP hD hS => ?_)
  have hP : va_P D vwCl [(h0, .inr (3, [v0, .ref q_75, v2, v3, v4, v5, v6])), (q_75, .inl (cI, 5, .inl f_76))] H := hP
  have hD : va_D A [(h0, .inr (3, [v0, .ref q_75, v2, v3, v4, v5, v6])), (q_75, .inl (cI, 5, .inl f_76))] := hD
  refine lv_aload_n hx hb dX4_init_11 rfl (lv_at hl 0 rfl) ?_
  refine lv_iconst (v := 5) hx hb dX4_init_12 (by decide) ?_
  refine kn_newi (ty := .int) (N' := 5) hx hb (hts (.arrayClass .int) (by decide +kernel)) rfl hK hP hD hS hA 0 rfl (fun _ => rfl) (fun _ => rfl) (by decide) (by decide) (by decide) (Nat.le_of_ble_eq_true rfl) (Nat.le_of_ble_eq_true rfl) dX4_init_13 (fun q_77 f_78 H hP hD hS => ?_)
  have hP : va_P D vwCl [(h0, .inr (3, [v0, .ref q_75, v2, v3, v4, v5, v6])), (q_75, .inl (cI, 5, .inl f_76)), (q_77, .inl (cI, 5, .inl f_78))] H := hP
  have hD : va_D A [(h0, .inr (3, [v0, .ref q_75, v2, v3, v4, v5, v6])), (q_75, .inl (cI, 5, .inl f_76)), (q_77, .inl (cI, 5, .inl f_78))] := hD
  refine W.widen (k := 2) (n := 10) (Nat.le_of_ble_eq_true rfl) (Nat.le_of_ble_eq_true rfl) ?_
  refine va_putF (D := D) (ci := 3) (v := .ref q_77) (ty := .array .int) (C := RX4) (T := TX4) (N := 7) hx hb hts inw_X4_init_X4 tyX4 tyX4_ok nmX4 hown hK hP hD hS 0 rfl rfl 2 (by decide) (hts (.fieldLink RX4 15 "EarTable$Speech" "levels" "[I") (by decide +kernel)) (fun _ h9 => h9) rfl hin rfl (by decide +kernel) rfl rfl (Nat.le_of_ble_eq_true rfl) dX4_init_15 (fun H locs hP hD hS => ?_)
  have hP : va_P D vwCl [(h0, .inr (3, [v0, .ref q_75, .ref q_77, v3, v4, v5, v6])), (q_75, .inl (cI, 5, .inl f_76)), (q_77, .inl (cI, 5, .inl f_78))] H := hP
  have hD : va_D A [(h0, .inr (3, [v0, .ref q_75, .ref q_77, v3, v4, v5, v6])), (q_75, .inl (cI, 5, .inl f_76)), (q_77, .inl (cI, 5, .inl f_78))] := hD
  refine lv_aload_n hx hb dX4_init_18 rfl (lv_at hl 0 rfl) ?_
  refine lv_iconst (v := 5) hx hb dX4_init_19 (by decide) ?_
  refine kn_newi (ty := .int) (N' := 5) hx hb (hts (.arrayClass .int) (by decide +kernel)) rfl hK hP hD hS hA 0 rfl (fun _ => rfl) (fun _ => rfl) (by decide) (by decide) (by decide) (Nat.le_of_ble_eq_true rfl) (Nat.le_of_ble_eq_true rfl) dX4_init_20 (fun q_79 f_80 H hP hD hS => ?_)
  have hP : va_P D vwCl [(h0, .inr (3, [v0, .ref q_75, .ref q_77, v3, v4, v5, v6])), (q_75, .inl (cI, 5, .inl f_76)), (q_77, .inl (cI, 5, .inl f_78)), (q_79, .inl (cI, 5, .inl f_80))] H := hP
  have hD : va_D A [(h0, .inr (3, [v0, .ref q_75, .ref q_77, v3, v4, v5, v6])), (q_75, .inl (cI, 5, .inl f_76)), (q_77, .inl (cI, 5, .inl f_78)), (q_79, .inl (cI, 5, .inl f_80))] := hD
  refine W.widen (k := 3) (n := 15) (Nat.le_of_ble_eq_true rfl) (Nat.le_of_ble_eq_true rfl) ?_
  refine va_putF (D := D) (ci := 3) (v := .ref q_79) (ty := .array .int) (C := RX4) (T := TX4) (N := 7) hx hb hts inw_X4_init_X4 tyX4 tyX4_ok nmX4 hown hK hP hD hS 0 rfl rfl 3 (by decide) (hts (.fieldLink RX4 18 "EarTable$Speech" "wheres" "[I") (by decide +kernel)) (fun _ h9 => h9) rfl hin rfl (by decide +kernel) rfl rfl (Nat.le_of_ble_eq_true rfl) dX4_init_22 (fun H locs hP hD hS => ?_)
  have hP : va_P D vwCl [(h0, .inr (3, [v0, .ref q_75, .ref q_77, .ref q_79, v4, v5, v6])), (q_75, .inl (cI, 5, .inl f_76)), (q_77, .inl (cI, 5, .inl f_78)), (q_79, .inl (cI, 5, .inl f_80))] H := hP
  have hD : va_D A [(h0, .inr (3, [v0, .ref q_75, .ref q_77, .ref q_79, v4, v5, v6])), (q_75, .inl (cI, 5, .inl f_76)), (q_77, .inl (cI, 5, .inl f_78)), (q_79, .inl (cI, 5, .inl f_80))] := hD
  refine lv_aload_n hx hb dX4_init_25 rfl (lv_at hl 0 rfl) ?_
  refine lv_aload_n hx hb dX4_init_26 rfl (lv_at hl 1 rfl) ?_
  refine va_putF (D := D) (ci := 3) (v := .ref a1) (ty := .object "EarTable$Grid") (C := RX4) (T := TX4) (N := 7) hx hb hts inw_X4_init_X4 tyX4 tyX4_ok nmX4 hown hK hP hD hS 0 rfl rfl 0 (by decide) (hts (.fieldLink RX4 21 "EarTable$Speech" "grid" "LEarTable$Grid;") (by decide +kernel)) (fun _ h9 => h9) rfl hin rfl (by decide +kernel) rfl rfl (Nat.le_of_ble_eq_true rfl) dX4_init_27 (fun H locs hP hD hS => ?_)
  have hP : va_P D vwCl [(h0, .inr (3, [.ref a1, .ref q_75, .ref q_77, .ref q_79, v4, v5, v6])), (q_75, .inl (cI, 5, .inl f_76)), (q_77, .inl (cI, 5, .inl f_78)), (q_79, .inl (cI, 5, .inl f_80))] H := hP
  have hD : va_D A [(h0, .inr (3, [.ref a1, .ref q_75, .ref q_77, .ref q_79, v4, v5, v6])), (q_75, .inl (cI, 5, .inl f_76)), (q_77, .inl (cI, 5, .inl f_78)), (q_79, .inl (cI, 5, .inl f_80))] := hD
  have hP9 := hP.sub (ws' := [(h0, .inr (3, [.ref a1, .ref q_75, .ref q_77, .ref q_79, v4, v5, v6])), (q_75, .inl (cI, 5, .inl f_76)), (q_77, .inl (cI, 5, .inl f_78)), (q_79, .inl (cI, 5, .inl f_80))]) [0, 1, 2, 3] rfl
  have hD9 := hD.sub (ws' := [(h0, .inr (3, [.ref a1, .ref q_75, .ref q_77, .ref q_79, v4, v5, v6])), (q_75, .inl (cI, 5, .inl f_76)), (q_77, .inl (cI, 5, .inl f_78)), (q_79, .inl (cI, 5, .inl f_80))]) [0, 1, 2, 3] (by decide) rfl
  exact W.vret hx hb hr (fun t ht hW => ⟨⟨(q_75, q_77, q_79, f_76, f_78, f_80), rfl, trivial, by rw [ht]; exact hP9, hD9⟩, hS.F ht⟩) hS.2.2 dX4_init_30
def o_X8_init : List Cond := [.methodLink RX8 3 objectInit, .instanceMethod objectInit, .code objectInit ⟨#[0xb1]⟩ 1 none, .arrayClass .int, .fieldLink RX8 9 "EarTable$Trail" "lines" "[I", .fieldLink RX8 15 "EarTable$Trail" "columns" "[I"]
def u_X8_init : List Cond := .code yX8_init cX8_init 1 none :: (o_X8_init ++ (wsX80 ++ ([] : List Cond)))
theorem inw_X8_init_X8 : ∀ w ∈ wsX80, w ∈ u_X8_init := fun w h => List.mem_cons_of_mem _ (List.mem_append_right _ (List.mem_append_left _ h))
set_option maxRecDepth 20000 in
theorem good_X8_init : u_X8_init.all goodWord = true := by decide +kernel
set_option maxRecDepth 20000 in
theorem in_X8_init : ∀ w ∈ u_X8_init, w ∈ lw_tbl := ma_cons inc_X8_init (ma_app (ma_pos o_X8_init [306, 86, 87, 103, 307, 308] (by decide +kernel)) (ma_app inb_X8 ma_nil))
set_option maxHeartbeats 4000000 in
set_option maxRecDepth 100000 in
theorem c_X8_init (l : Launch) (D : va_G) (cI cJ cZ cB : ClassId) (sz : Nat) (h0 : Nat) (v0 : Value) (v1 : Value) (v2 : Value) (v3 : Value) (v4 : Value) : Met l yX8_init u_X8_init ({ frames := 1, cells := 2, slots := 100, locals := 20 }) (va_Pc [.ref h0] (kPre D cI cJ cZ cB [(h0, .inr (7, [v0, v1, v2, v3, v4]))] sz)) (va_Qv (fun (_ : Nat × Nat × (Nat → Int32) × (Nat → Int32)) => True) (kB D (fun (u : Nat × Nat × (Nat → Int32) × (Nat → Int32)) => [(h0, .inr (7, [.ref u.1, .ref u.2.1, v2, v3, v4])), (u.1, .inl (cI, 50, .inl u.2.2.1)), (u.2.1, .inl (cI, 50, .inl u.2.2.2))]) (va_A [(h0, .inr (7, [v0, v1, v2, v3, v4]))] sz)) (va_A [(h0, .inr (7, [v0, v1, v2, v3, v4]))] sz)) 2 100 (va_A [(h0, .inr (7, [v0, v1, v2, v3, v4]))] sz) := by
  refine Met.ofW (cc := cX8_init) (maxL := 1) (ret := none) (by decide) rfl ?_
  intro p e s m args below meth c s₁ B hml hv
  obtain ⟨rfl, hsz, hP, hK, hN, hD0⟩ := hv
  have hx := B.exec
  have hb := B.bytes
  have hr := B.returns
  have hts := atoms_spec (ws := u_X8_init) B.pre
  have hown : s.vm.findClass RX8 = some m.cls := findClass_of_methodNamed B.named
  have hlocks := B.notSynchronized
  have hin : meth.name = "<init>" := (name_of_methodNamed B.named B.method).1
  subst hsz
  have hD := hD0.self (sz := s.heap.size)
  generalize hAe : va_A [(h0, .inr (7, [v0, v1, v2, v3, v4]))] s.heap.size = A at hD ⊢
  have hA : ∀ q : Nat, s.heap.size ≤ q → A q := fun q h => by rw [← hAe]; exact Or.inr h
  have hS : va_S A s.heap s.heap [] := va_S.rf
  have hP : va_P D vwCl [(h0, .inr (7, [v0, v1, v2, v3, v4]))] s.heap := hP
  have hl := lv_entry ([.ref h0]) (n := 1) (Nat.le_of_ble_eq_true rfl)
  rw [lg_entry_eq]
  generalize (lg_sl ([.ref h0]) ++ List.replicate (1 - (lg_sl ([.ref h0])).length) Slot.unset).toArray = ls at hl ⊢
  have hl : lv_has ls 1 [(0, .ref h0)] := hl
  obtain ⟨H, hHe⟩ : ∃ H, s.heap = H := ⟨_, rfl⟩
  have hP : va_P D vwCl [(h0, .inr (7, [v0, v1, v2, v3, v4]))] H := by rw [← hHe]; exact hP
  have hS : va_S A s.heap H [] := by rw [← hHe]; exact hS
  refine kn_heap hHe ?_
  refine lv_aload_n hx hb dX8_init_0 rfl (lv_at hl 0 rfl) ?_
  refine W.objInit hx hb hown (hts (.methodLink RX8 3 objectInit) (by decide +kernel)) (hts (.instanceMethod objectInit) (by decide +kernel)) (hts (.code objectInit ⟨#[0xb1]⟩ 1 none) (by decide +kernel)) rfl (by rw [hml]; exact hl.1) rfl dX8_init_1 (Nat.le_of_ble_eq_true rfl) (Nat.le_of_ble_eq_true rfl) ?_
  refine W.eq (g2 := F0 m 4 ls []) rfl ?_
  refine lv_aload_n hx hb dX8_init_4 rfl (lv_at hl 0 rfl) ?_
  refine lv_bipush (v := 50) hx hb dX8_init_5 (by decide) ?_
  refine kn_newi (ty := .int) (N' := 50) hx hb (hts (.arrayClass .int) (by decide +kernel)) rfl hK hP hD hS hA 0 rfl (fun _ => rfl) (fun _ => rfl) (by decide) (by decide) (by decide) (Nat.le_of_ble_eq_true rfl) (Nat.le_of_ble_eq_true rfl) dX8_init_7 (fun q_89 f_90 H hP hD hS => ?_)
  have hP : va_P D vwCl [(h0, .inr (7, [v0, v1, v2, v3, v4])), (q_89, .inl (cI, 50, .inl f_90))] H := hP
  have hD : va_D A [(h0, .inr (7, [v0, v1, v2, v3, v4])), (q_89, .inl (cI, 50, .inl f_90))] := hD
  refine W.widen (k := 1) (n := 50) (Nat.le_of_ble_eq_true rfl) (Nat.le_of_ble_eq_true rfl) ?_
  refine va_putF (D := D) (ci := 7) (v := .ref q_89) (ty := .array .int) (C := RX8) (T := TX8) (N := 5) hx hb hts inw_X8_init_X8 tyX8 tyX8_ok nmX8 hown hK hP hD hS 0 rfl rfl 0 (by decide) (hts (.fieldLink RX8 9 "EarTable$Trail" "lines" "[I") (by decide +kernel)) (fun _ h9 => h9) rfl hin rfl (by decide +kernel) rfl rfl (Nat.le_of_ble_eq_true rfl) dX8_init_9 (fun H locs hP hD hS => ?_)
  have hP : va_P D vwCl [(h0, .inr (7, [.ref q_89, v1, v2, v3, v4])), (q_89, .inl (cI, 50, .inl f_90))] H := hP
  have hD : va_D A [(h0, .inr (7, [.ref q_89, v1, v2, v3, v4])), (q_89, .inl (cI, 50, .inl f_90))] := hD
  refine lv_aload_n hx hb dX8_init_12 rfl (lv_at hl 0 rfl) ?_
  refine lv_bipush (v := 50) hx hb dX8_init_13 (by decide) ?_
  refine kn_newi (ty := .int) (N' := 50) hx hb (hts (.arrayClass .int) (by decide +kernel)) rfl hK hP hD hS hA 0 rfl (fun _ => rfl) (fun _ => rfl) (by decide) (by decide) (by decide) (Nat.le_of_ble_eq_true rfl) (Nat.le_of_ble_eq_true rfl) dX8_init_15 (fun q_91 f_92 H hP hD hS => ?_)
  have hP : va_P D vwCl [(h0, .inr (7, [.ref q_89, v1, v2, v3, v4])), (q_89, .inl (cI, 50, .inl f_90)), (q_91, .inl (cI, 50, .inl f_92))] H := hP
  have hD : va_D A [(h0, .inr (7, [.ref q_89, v1, v2, v3, v4])), (q_89, .inl (cI, 50, .inl f_90)), (q_91, .inl (cI, 50, .inl f_92))] := hD
  refine W.widen (k := 2) (n := 100) (Nat.le_of_ble_eq_true rfl) (Nat.le_of_ble_eq_true rfl) ?_
  refine va_putF (D := D) (ci := 7) (v := .ref q_91) (ty := .array .int) (C := RX8) (T := TX8) (N := 5) hx hb hts inw_X8_init_X8 tyX8 tyX8_ok nmX8 hown hK hP hD hS 0 rfl rfl 1 (by decide) (hts (.fieldLink RX8 15 "EarTable$Trail" "columns" "[I") (by decide +kernel)) (fun _ h9 => h9) rfl hin rfl (by decide +kernel) rfl rfl (Nat.le_of_ble_eq_true rfl) dX8_init_17 (fun H locs hP hD hS => ?_)
  have hP : va_P D vwCl [(h0, .inr (7, [.ref q_89, .ref q_91, v2, v3, v4])), (q_89, .inl (cI, 50, .inl f_90)), (q_91, .inl (cI, 50, .inl f_92))] H := hP
  have hD : va_D A [(h0, .inr (7, [.ref q_89, .ref q_91, v2, v3, v4])), (q_89, .inl (cI, 50, .inl f_90)), (q_91, .inl (cI, 50, .inl f_92))] := hD
  have hP9 := hP.sub (ws' := [(h0, .inr (7, [.ref q_89, .ref q_91, v2, v3, v4])), (q_89, .inl (cI, 50, .inl f_90)), (q_91, .inl (cI, 50, .inl f_92))]) [0, 1, 2] rfl
  have hD9 := hD.sub (ws' := [(h0, .inr (7, [.ref q_89, .ref q_91, v2, v3, v4])), (q_89, .inl (cI, 50, .inl f_90)), (q_91, .inl (cI, 50, .inl f_92))]) [0, 1, 2] (by decide) rfl
  exact W.vret hx hb hr (fun t ht hW => ⟨⟨(q_89, q_91, f_90, f_92), rfl, trivial, by rw [ht]; exact hP9, hD9⟩, hS.F ht⟩) hS.2.2 dX8_init_20
def o_X0_init : List Cond := [.methodLink RX0 3 objectInit, .instanceMethod objectInit, .code objectInit ⟨#[0xb1]⟩ 1 none, .arrayClass .int, .fieldLink RX0 9 "EarTable$Changes" "spots" "[I", .fieldLink RX0 15 "EarTable$Changes" "kinds" "[I", .arrayClass .long, .fieldLink RX0 18 "EarTable$Changes" "contents" "[J", .fieldLink RX0 22 "EarTable$Changes" "grid" "LEarTable$Grid;"]
def u_X0_init : List Cond := .code yX0_init cX0_init 2 none :: (o_X0_init ++ (wsX00 ++ ([] : List Cond)))
theorem inw_X0_init_X0 : ∀ w ∈ wsX00, w ∈ u_X0_init := fun w h => List.mem_cons_of_mem _ (List.mem_append_right _ (List.mem_append_left _ h))
set_option maxRecDepth 20000 in
theorem good_X0_init : u_X0_init.all goodWord = true := by decide +kernel
set_option maxRecDepth 20000 in
theorem in_X0_init : ∀ w ∈ u_X0_init, w ∈ lw_tbl := ma_cons inc_X0_init (ma_app (ma_pos o_X0_init [331, 86, 87, 103, 333, 334, 187, 335, 332] (by decide +kernel)) (ma_app inb_X0 ma_nil))
set_option maxHeartbeats 4000000 in
set_option maxRecDepth 100000 in
theorem c_X0_init (l : Launch) (D : va_G) (cI cJ cZ cB : ClassId) (sz : Nat) (h0 : Nat) (v0 : Value) (v1 : Value) (v2 : Value) (v3 : Value) (v4 : Value) (a1 : Nat) : Met l yX0_init u_X0_init ({ frames := 1, cells := 3, slots := 120, locals := 20 }) (va_Pc [.ref h0, .ref a1] (kPre D cI cJ cZ cB [(h0, .inr (0, [v0, v1, v2, v3, v4]))] sz)) (va_Qv (fun (_ : Nat × Nat × Nat × (Nat → Int32) × (Nat → Int32) × (Nat → Int64)) => True) (kB D (fun (u : Nat × Nat × Nat × (Nat → Int32) × (Nat → Int32) × (Nat → Int64)) => [(h0, .inr (0, [.ref a1, .ref u.1, .ref u.2.1, .ref u.2.2.1, v4])), (u.1, .inl (cI, 40, .inl u.2.2.2.1)), (u.2.1, .inl (cI, 40, .inl u.2.2.2.2.1)), (u.2.2.1, .inl (cJ, 40, .inr (.inl u.2.2.2.2.2)))]) (va_A [(h0, .inr (0, [v0, v1, v2, v3, v4]))] sz)) (va_A [(h0, .inr (0, [v0, v1, v2, v3, v4]))] sz)) 3 120 (va_A [(h0, .inr (0, [v0, v1, v2, v3, v4]))] sz) := by
  refine Met.ofW (cc := cX0_init) (maxL := 2) (ret := none) (by decide) rfl ?_
  intro p e s m args below meth c s₁ B hml hv
  obtain ⟨rfl, hsz, hP, hK, hN, hD0⟩ := hv
  have hx := B.exec
  have hb := B.bytes
  have hr := B.returns
  have hts := atoms_spec (ws := u_X0_init) B.pre
  have hown : s.vm.findClass RX0 = some m.cls := findClass_of_methodNamed B.named
  have hlocks := B.notSynchronized
  have hin : meth.name = "<init>" := (name_of_methodNamed B.named B.method).1
  subst hsz
  have hD := hD0.self (sz := s.heap.size)
  generalize hAe : va_A [(h0, .inr (0, [v0, v1, v2, v3, v4]))] s.heap.size = A at hD ⊢
  have hA : ∀ q : Nat, s.heap.size ≤ q → A q := fun q h => by rw [← hAe]; exact Or.inr h
  have hS : va_S A s.heap s.heap [] := va_S.rf
  have hP : va_P D vwCl [(h0, .inr (0, [v0, v1, v2, v3, v4]))] s.heap := hP
  have hl := lv_entry ([.ref h0, .ref a1]) (n := 2) (Nat.le_of_ble_eq_true rfl)
  rw [lg_entry_eq]
  generalize (lg_sl ([.ref h0, .ref a1]) ++ List.replicate (2 - (lg_sl ([.ref h0, .ref a1])).length) Slot.unset).toArray = ls at hl ⊢
  have hl : lv_has ls 2 [(0, .ref h0), (1, .ref a1)] := hl
  obtain ⟨H, hHe⟩ : ∃ H, s.heap = H := ⟨_, rfl⟩
  have hP : va_P D vwCl [(h0, .inr (0, [v0, v1, v2, v3, v4]))] H := by rw [← hHe]; exact hP
  have hS : va_S A s.heap H [] := by rw [← hHe]; exact hS
  refine kn_heap hHe ?_
  refine lv_aload_n hx hb dX0_init_0 rfl (lv_at hl 0 rfl) ?_
  refine W.objInit hx hb hown (hts (.methodLink RX0 3 objectInit) (by decide +kernel)) (hts (.instanceMethod objectInit) (by decide +kernel)) (hts (.code objectInit ⟨#[0xb1]⟩ 1 none) (by decide +kernel)) rfl (by rw [hml]; exact hl.1) rfl dX0_init_1 (Nat.le_of_ble_eq_true rfl) (Nat.le_of_ble_eq_true rfl) ?_
  refine W.eq (g2 := F0 m 4 ls []) rfl ?_
  refine lv_aload_n hx hb dX0_init_4 rfl (lv_at hl 0 rfl) ?_
  refine lv_bipush (v := 40) hx hb dX0_init_5 (by decide) ?_
  refine kn_newi (ty := .int) (N' := 40) hx hb (hts (.arrayClass .int) (by decide +kernel)) rfl hK hP hD hS hA 0 rfl (fun _ => rfl) (fun _ => rfl) (by decide) (by decide) (by decide) (Nat.le_of_ble_eq_true rfl) (Nat.le_of_ble_eq_true rfl) dX0_init_7 (fun q_99 f_100 H hP hD hS => ?_)
  have hP : va_P D vwCl [(h0, .inr (0, [v0, v1, v2, v3, v4])), (q_99, .inl (cI, 40, .inl f_100))] H := hP
  have hD : va_D A [(h0, .inr (0, [v0, v1, v2, v3, v4])), (q_99, .inl (cI, 40, .inl f_100))] := hD
  refine W.widen (k := 1) (n := 40) (Nat.le_of_ble_eq_true rfl) (Nat.le_of_ble_eq_true rfl) ?_
  refine va_putF (D := D) (ci := 0) (v := .ref q_99) (ty := .array .int) (C := RX0) (T := TX0) (N := 5) hx hb hts inw_X0_init_X0 tyX0 tyX0_ok nmX0 hown hK hP hD hS 0 rfl rfl 1 (by decide) (hts (.fieldLink RX0 9 "EarTable$Changes" "spots" "[I") (by decide +kernel)) (fun _ h9 => h9) rfl hin rfl (by decide +kernel) rfl rfl (Nat.le_of_ble_eq_true rfl) dX0_init_9 (fun H locs hP hD hS => ?_)
  have hP : va_P D vwCl [(h0, .inr (0, [v0, .ref q_99, v2, v3, v4])), (q_99, .inl (cI, 40, .inl f_100))] H := hP
  have hD : va_D A [(h0, .inr (0, [v0, .ref q_99, v2, v3, v4])), (q_99, .inl (cI, 40, .inl f_100))] := hD
  refine lv_aload_n hx hb dX0_init_12 rfl (lv_at hl 0 rfl) ?_
  refine lv_bipush (v := 40) hx hb dX0_init_13 (by decide) ?_
  refine kn_newi (ty := .int) (N' := 40) hx hb (hts (.arrayClass .int) (by decide +kernel)) rfl hK hP hD hS hA 0 rfl (fun _ => rfl) (fun _ => rfl) (by decide) (by decide) (by decide) (Nat.le_of_ble_eq_true rfl) (Nat.le_of_ble_eq_true rfl) dX0_init_15 (fun q_101 f_102 H hP hD hS => ?_)
  have hP : va_P D vwCl [(h0, .inr (0, [v0, .ref q_99, v2, v3, v4])), (q_99, .inl (cI, 40, .inl f_100)), (q_101, .inl (cI, 40, .inl f_102))] H := hP
  have hD : va_D A [(h0, .inr (0, [v0, .ref q_99, v2, v3, v4])), (q_99, .inl (cI, 40, .inl f_100)), (q_101, .inl (cI, 40, .inl f_102))] := hD
  refine W.widen (k := 2) (n := 80) (Nat.le_of_ble_eq_true rfl) (Nat.le_of_ble_eq_true rfl) ?_
  refine va_putF (D := D) (ci := 0) (v := .ref q_101) (ty := .array .int) (C := RX0) (T := TX0) (N := 5) hx hb hts inw_X0_init_X0 tyX0 tyX0_ok nmX0 hown hK hP hD hS 0 rfl rfl 2 (by decide) (hts (.fieldLink RX0 15 "EarTable$Changes" "kinds" "[I") (by decide +kernel)) (fun _ h9 => h9) rfl hin rfl (by decide +kernel) rfl rfl (Nat.le_of_ble_eq_true rfl) dX0_init_17 (fun H locs hP hD hS => ?_)
  have hP : va_P D vwCl [(h0, .inr (0, [v0, .ref q_99, .ref q_101, v3, v4])), (q_99, .inl (cI, 40, .inl f_100)), (q_101, .inl (cI, 40, .inl f_102))] H := hP
  have hD : va_D A [(h0, .inr (0, [v0, .ref q_99, .ref q_101, v3, v4])), (q_99, .inl (cI, 40, .inl f_100)), (q_101, .inl (cI, 40, .inl f_102))] := hD
  refine lv_aload_n hx hb dX0_init_20 rfl (lv_at hl 0 rfl) ?_
  refine lv_bipush (v := 40) hx hb dX0_init_21 (by decide) ?_
  refine kn_newl (ty := .long) (N' := 40) hx hb (hts (.arrayClass .long) (by decide +kernel)) rfl hK hP hD hS hA 1 rfl (fun _ => rfl) (fun _ => rfl) (by decide) (by decide) (by decide) (Nat.le_of_ble_eq_true rfl) (Nat.le_of_ble_eq_true rfl) dX0_init_23 (fun q_103 f_104 H hP hD hS => ?_)
  have hP : va_P D vwCl [(h0, .inr (0, [v0, .ref q_99, .ref q_101, v3, v4])), (q_99, .inl (cI, 40, .inl f_100)), (q_101, .inl (cI, 40, .inl f_102)), (q_103, .inl (cJ, 40, .inr (.inl f_104)))] H := hP
  have hD : va_D A [(h0, .inr (0, [v0, .ref q_99, .ref q_101, v3, v4])), (q_99, .inl (cI, 40, .inl f_100)), (q_101, .inl (cI, 40, .inl f_102)), (q_103, .inl (cJ, 40, .inr (.inl f_104)))] := hD
  refine W.widen (k := 3) (n := 120) (Nat.le_of_ble_eq_true rfl) (Nat.le_of_ble_eq_true rfl) ?_
  refine va_putF (D := D) (ci := 0) (v := .ref q_103) (ty := .array .long) (C := RX0) (T := TX0) (N := 5) hx hb hts inw_X0_init_X0 tyX0 tyX0_ok nmX0 hown hK hP hD hS 0 rfl rfl 3 (by decide) (hts (.fieldLink RX0 18 "EarTable$Changes" "contents" "[J") (by decide +kernel)) (fun _ h9 => h9) rfl hin rfl (by decide +kernel) rfl rfl (Nat.le_of_ble_eq_true rfl) dX0_init_25 (fun H locs hP hD hS => ?_)
  have hP : va_P D vwCl [(h0, .inr (0, [v0, .ref q_99, .ref q_101, .ref q_103, v4])), (q_99, .inl (cI, 40, .inl f_100)), (q_101, .inl (cI, 40, .inl f_102)), (q_103, .inl (cJ, 40, .inr (.inl f_104)))] H := hP
  have hD : va_D A [(h0, .inr (0, [v0, .ref q_99, .ref q_101, .ref q_103, v4])), (q_99, .inl (cI, 40, .inl f_100)), (q_101, .inl (cI, 40, .inl f_102)), (q_103, .inl (cJ, 40, .inr (.inl f_104)))] := hD
  refine lv_aload_n hx hb dX0_init_28 rfl (lv_at hl 0 rfl) ?_
  refine lv_aload_n hx hb dX0_init_29 rfl (lv_at hl 1 rfl) ?_
  refine va_putF (D := D) (ci := 0) (v := .ref a1) (ty := .object "EarTable$Grid") (C := RX0) (T := TX0) (N := 5) hx hb hts inw_X0_init_X0 tyX0 tyX0_ok nmX0 hown hK hP hD hS 0 rfl rfl 0 (by decide) (hts (.fieldLink RX0 22 "EarTable$Changes" "grid" "LEarTable$Grid;") (by decide +kernel)) (fun _ h9 => h9) rfl hin rfl (by decide +kernel) rfl rfl (Nat.le_of_ble_eq_true rfl) dX0_init_30 (fun H locs hP hD hS => ?_)
  have hP : va_P D vwCl [(h0, .inr (0, [.ref a1, .ref q_99, .ref q_101, .ref q_103, v4])), (q_99, .inl (cI, 40, .inl f_100)), (q_101, .inl (cI, 40, .inl f_102)), (q_103, .inl (cJ, 40, .inr (.inl f_104)))] H := hP
  have hD : va_D A [(h0, .inr (0, [.ref a1, .ref q_99, .ref q_101, .ref q_103, v4])), (q_99, .inl (cI, 40, .inl f_100)), (q_101, .inl (cI, 40, .inl f_102)), (q_103, .inl (cJ, 40, .inr (.inl f_104)))] := hD
  have hP9 := hP.sub (ws' := [(h0, .inr (0, [.ref a1, .ref q_99, .ref q_101, .ref q_103, v4])), (q_99, .inl (cI, 40, .inl f_100)), (q_101, .inl (cI, 40, .inl f_102)), (q_103, .inl (cJ, 40, .inr (.inl f_104)))]) [0, 1, 2, 3] rfl
  have hD9 := hD.sub (ws' := [(h0, .inr (0, [.ref a1, .ref q_99, .ref q_101, .ref q_103, v4])), (q_99, .inl (cI, 40, .inl f_100)), (q_101, .inl (cI, 40, .inl f_102)), (q_103, .inl (cJ, 40, .inr (.inl f_104)))]) [0, 1, 2, 3] (by decide) rfl
  exact W.vret hx hb hr (fun t ht hW => ⟨⟨(q_99, q_101, q_103, f_100, f_102, f_104), rfl, trivial, by rw [ht]; exact hP9, hD9⟩, hS.F ht⟩) hS.2.2 dX0_init_33
def o_X9_keepOrder : List Cond := [.fieldLink RX9 9 "EarTable$View" "order" "[I", .fieldLink RX9 15 "EarTable$View" "orderBefore" "[I", .methodLink RX9 67 arraycopyName, .native arraycopyName, .static arraycopyName, .initialized "java/lang/System", .fieldLink RX9 22 "EarTable$View" "size" "I", .fieldLink RX9 34 "EarTable$View" "sizeBefore" "I"]
def u_X9_keepOrder : List Cond := .code yX9_keepOrder cX9_keepOrder 1 none :: (o_X9_keepOrder ++ (wsX90 ++ ([] : List Cond)))
theorem inw_X9_keepOrder_X9 : ∀ w ∈ wsX90, w ∈ u_X9_keepOrder := fun w h => List.mem_cons_of_mem _ (List.mem_append_right _ (List.mem_append_left _ h))
set_option maxRecDepth 20000 in
theorem good_X9_keepOrder : u_X9_keepOrder.all goodWord = true := by decide +kernel
set_option maxRecDepth 20000 in
theorem in_X9_keepOrder : ∀ w ∈ u_X9_keepOrder, w ∈ lw_tbl := ma_cons inc_X9_keepOrder (ma_app (ma_pos o_X9_keepOrder [214, 216, 361, 363, 362, 75, 217, 220] (by decide +kernel)) (ma_app inb_X9 ma_nil))
set_option maxHeartbeats 4000000 in
set_option maxRecDepth 100000 in
theorem c_X9_keepOrder (l : Launch) (D : va_G) (cI cJ cZ cB : ClassId) (sz : Nat) (h0 : Nat) (h1 : Nat) (h2 : Nat) (v0 : Value) (v1 : Value) (f2 : Nat → Int32) (f3 : Nat → Int32) : Met l yX9_keepOrder u_X9_keepOrder ({ frames := 1, cells := 0, slots := 0, locals := 40 }) (va_Pc [.ref h0] (kPre D cI cJ cZ cB [(h0, .inr (8, [v0, .ref h1, .ref h2, .int 0, v1])), (h1, .inl (cI, 30, .inl f2)), (h2, .inl (cI, 30, .inl f3))] sz)) (va_Qv (fun (_ : (Nat → Int32)) => True) (kB D (fun (u : (Nat → Int32)) => [(h0, .inr (8, [v0, .ref h1, .ref h2, .int 0, .int 0])), (h1, .inl (cI, 30, .inl f2)), (h2, .inl (cI, 30, .inl u))]) (va_A [(h0, .inr (8, [v0, .ref h1, .ref h2, .int 0, v1])), (h1, .inl (cI, 30, .inl f2)), (h2, .inl (cI, 30, .inl f3))] sz)) (va_A [(h0, .inr (8, [v0, .ref h1, .ref h2, .int 0, v1])), (h1, .inl (cI, 30, .inl f2)), (h2, .inl (cI, 30, .inl f3))] sz)) 0 0 (va_A [(h0, .inr (8, [v0, .ref h1, .ref h2, .int 0, v1])), (h1, .inl (cI, 30, .inl f2)), (h2, .inl (cI, 30, .inl f3))] sz) := by
  refine Met.ofW (cc := cX9_keepOrder) (maxL := 1) (ret := none) (by decide) rfl ?_
  intro p e s m args below meth c s₁ B hml hv
  obtain ⟨rfl, hsz, hP, hK, hN, hD0⟩ := hv
  have hx := B.exec
  have hb := B.bytes
  have hr := B.returns
  have hts := atoms_spec (ws := u_X9_keepOrder) B.pre
  have hown : s.vm.findClass RX9 = some m.cls := findClass_of_methodNamed B.named
  have hlocks := B.notSynchronized
  subst hsz
  have hD := hD0.self (sz := s.heap.size)
  generalize hAe : va_A [(h0, .inr (8, [v0, .ref h1, .ref h2, .int 0, v1])), (h1, .inl (cI, 30, .inl f2)), (h2, .inl (cI, 30, .inl f3))] s.heap.size = A at hD ⊢
  have hA : ∀ q : Nat, s.heap.size ≤ q → A q := fun q h => by rw [← hAe]; exact Or.inr h
  have hS : va_S A s.heap s.heap [] := va_S.rf
  have hP : va_P D vwCl [(h0, .inr (8, [v0, .ref h1, .ref h2, .int 0, v1])), (h1, .inl (cI, 30, .inl f2)), (h2, .inl (cI, 30, .inl f3))] s.heap := hP
  have hl := lv_entry ([.ref h0]) (n := 1) (Nat.le_of_ble_eq_true rfl)
  rw [lg_entry_eq]
  generalize (lg_sl ([.ref h0]) ++ List.replicate (1 - (lg_sl ([.ref h0])).length) Slot.unset).toArray = ls at hl ⊢
  have hl : lv_has ls 1 [(0, .ref h0)] := hl
  obtain ⟨H, hHe⟩ : ∃ H, s.heap = H := ⟨_, rfl⟩
  have hP : va_P D vwCl [(h0, .inr (8, [v0, .ref h1, .ref h2, .int 0, v1])), (h1, .inl (cI, 30, .inl f2)), (h2, .inl (cI, 30, .inl f3))] H := by rw [← hHe]; exact hP
  have hS : va_S A s.heap H [] := by rw [← hHe]; exact hS
  refine kn_heap hHe ?_
  refine lv_aload_n hx hb dX9_keepOrder_0 rfl (lv_at hl 0 rfl) ?_
  refine va_get (D := D) (ci := 8) (v := .ref h1) (C := RX9) (T := TX9) (N := 5) hx hb hts inw_X9_keepOrder_X9 hown hK hP 0 rfl rfl 1 (by decide) (hts (.fieldLink RX9 9 "EarTable$View" "order" "[I") (by decide +kernel)) (fun _ h9 => h9) rfl dX9_keepOrder_1 ?_
  refine lv_iconst (v := 0) hx hb dX9_keepOrder_4 (by decide) ?_
  refine lv_aload_n hx hb dX9_keepOrder_5 rfl (lv_at hl 0 rfl) ?_
  refine va_get (D := D) (ci := 8) (v := .ref h2) (C := RX9) (T := TX9) (N := 5) hx hb hts inw_X9_keepOrder_X9 hown hK hP 0 rfl rfl 2 (by decide) (hts (.fieldLink RX9 15 "EarTable$View" "orderBefore" "[I") (by decide +kernel)) (fun _ h9 => h9) rfl dX9_keepOrder_6 ?_
  refine lv_iconst (v := 0) hx hb dX9_keepOrder_9 (by decide) ?_
  refine lv_bipush (v := 30) hx hb dX9_keepOrder_10 (by decide) ?_
  refine kn_copyi (ty := .int) hx hb (hml.trans hl.1.symm) hown (hts (.methodLink RX9 67 arraycopyName) (by decide +kernel)) (hts (.native arraycopyName) (by decide +kernel)) (hts (.static arraycopyName) (by decide +kernel)) (hts (.initialized "java/lang/System") (by decide +kernel)) hK hP hD hS 1 2 0 0 rfl rfl rfl rfl rfl (by decide) (by decide) (by decide) (by decide) (by decide) (fun _ _ => rfl) (Nat.le_of_ble_eq_true rfl) (by decide +kernel) dX9_keepOrder_12 (fun f_132 H locs hP hD hS => ?_)
  have hP : va_P D vwCl [(h0, .inr (8, [v0, .ref h1, .ref h2, .int 0, v1])), (h1, .inl (cI, 30, .inl f2)), (h2, .inl (cI, 30, .inl f_132))] H := hP
  have hD : va_D A [(h0, .inr (8, [v0, .ref h1, .ref h2, .int 0, v1])), (h1, .inl (cI, 30, .inl f2)), (h2, .inl (cI, 30, .inl f_132))] := hD
  refine lv_aload_n hx hb dX9_keepOrder_15 rfl (lv_at hl 0 rfl) ?_
  refine lv_aload_n hx hb dX9_keepOrder_16 rfl (lv_at hl 0 rfl) ?_
  refine va_get (D := D) (ci := 8) (v := .int 0) (C := RX9) (T := TX9) (N := 5) hx hb hts inw_X9_keepOrder_X9 hown hK hP 0 rfl rfl 3 (by decide) (hts (.fieldLink RX9 22 "EarTable$View" "size" "I") (by decide +kernel)) (fun _ h9 => h9) rfl dX9_keepOrder_17 ?_
  refine va_put (D := D) (ci := 8) (v := .int 0) (ty := .int) (C := RX9) (T := TX9) (N := 5) hx hb hts inw_X9_keepOrder_X9 tyX9 tyX9_ok nmX9 hown hK hP hD hS 0 rfl rfl 4 (by decide) (hts (.fieldLink RX9 34 "EarTable$View" "sizeBefore" "I") (by decide +kernel)) (fun _ h9 => h9) rfl (by decide +kernel) rfl rfl (Nat.le_of_ble_eq_true rfl) dX9_keepOrder_20 (fun H locs hP hD hS => ?_)
  have hP : va_P D vwCl [(h0, .inr (8, [v0, .ref h1, .ref h2, .int 0, .int 0])), (h1, .inl (cI, 30, .inl f2)), (h2, .inl (cI, 30, .inl f_132))] H := hP
  have hD : va_D A [(h0, .inr (8, [v0, .ref h1, .ref h2, .int 0, .int 0])), (h1, .inl (cI, 30, .inl f2)), (h2, .inl (cI, 30, .inl f_132))] := hD
  have hP9 := hP.sub (ws' := [(h0, .inr (8, [v0, .ref h1, .ref h2, .int 0, .int 0])), (h1, .inl (cI, 30, .inl f2)), (h2, .inl (cI, 30, .inl f_132))]) [0, 1, 2] rfl
  have hD9 := hD.sub (ws' := [(h0, .inr (8, [v0, .ref h1, .ref h2, .int 0, .int 0])), (h1, .inl (cI, 30, .inl f2)), (h2, .inl (cI, 30, .inl f_132))]) [0, 1, 2] (by decide) rfl
  exact W.vret hx hb hr (fun t ht hW => ⟨⟨f_132, rfl, trivial, by rw [ht]; exact hP9, hD9⟩, hS.F ht⟩) hS.2.2 dX9_keepOrder_23
def o_X9_takeAll : List Cond := [.methodLink RX9 26 yX9_keepOrder, .instanceMethod yX9_keepOrder, .selects RX9 yX9_keepOrder yX9_keepOrder, .initialized RX9, .fieldLink RX9 18 "EarTable$View" "grid" "LEarTable$Grid;", .fieldLink RX9 22 "EarTable$View" "size" "I"]
def u_X9_takeAll : List Cond := .code yX9_takeAll cX9_takeAll 2 none :: (o_X9_takeAll ++ (u_X9_keepOrder ++ (wsX90 ++ (wsX10 ++ ([] : List Cond)))))
theorem gs_X9_takeAll__X9_keepOrder : GoodIn u_X9_takeAll u_X9_keepOrder := goodIn_sub (fun w h => List.mem_cons_of_mem _ (List.mem_append_right _ (List.mem_append_left _ h))) good_X9_keepOrder
theorem inw_X9_takeAll_X9 : ∀ w ∈ wsX90, w ∈ u_X9_takeAll := fun w h => List.mem_cons_of_mem _ (List.mem_append_right _ (List.mem_append_right _ (List.mem_append_left _ h)))
theorem inw_X9_takeAll_X1 : ∀ w ∈ wsX10, w ∈ u_X9_takeAll := fun w h => List.mem_cons_of_mem _ (List.mem_append_right _ (List.mem_append_right _ (List.mem_append_right _ (List.mem_append_left _ h))))
set_option maxRecDepth 20000 in
theorem good_X9_takeAll : u_X9_takeAll.all goodWord = true := by decide +kernel
set_option maxRecDepth 20000 in
theorem in_X9_takeAll : ∀ w ∈ u_X9_takeAll, w ∈ lw_tbl := ma_cons inc_X9_takeAll (ma_app (ma_pos o_X9_takeAll [357, 359, 1, 69, 213, 217] (by decide +kernel)) (ma_app in_X9_keepOrder (ma_app inb_X9 (ma_app inb_X1 ma_nil))))
set_option maxHeartbeats 4000000 in
set_option maxRecDepth 100000 in
theorem c_X9_takeAll (l : Launch) (D : va_G) (cI cJ cZ cB : ClassId) (sz : Nat) (h0 : Nat) (h1 : Nat) (h2 : Nat) (h3 : Nat) (v0 : Value) (f1 : Nat → Int32) (f2 : Nat → Int32) (v3 : Value) (v4 : Value) (v5 : Value) (v6 : Value) (v7 : Value) (v8 : Value) (v9 : Value) : Met l yX9_takeAll u_X9_takeAll ({ frames := 2, cells := 0, slots := 0, locals := 60 }) (va_Pc [.ref h0] (kPre D cI cJ cZ cB [(h0, .inr (8, [.ref h3, .ref h1, .ref h2, .int 0, v0])), (h1, .inl (cI, 30, .inl f1)), (h2, .inl (cI, 30, .inl f2)), (h3, .inr (1, [v3, v4, v5, v6, v7, v8, .int 0, v9]))] sz)) (va_Qv (fun (_ : (Nat → Int32)) => True) (kB D (fun (u : (Nat → Int32)) => [(h0, .inr (8, [.ref h3, .ref h1, .ref h2, .int 0, .int 0])), (h1, .inl (cI, 30, .inl f1)), (h2, .inl (cI, 30, .inl u)), (h3, .inr (1, [v3, v4, v5, v6, v7, v8, .int 0, v9]))]) (va_A [(h0, .inr (8, [.ref h3, .ref h1, .ref h2, .int 0, v0])), (h1, .inl (cI, 30, .inl f1)), (h2, .inl (cI, 30, .inl f2)), (h3, .inr (1, [v3, v4, v5, v6, v7, v8, .int 0, v9]))] sz)) (va_A [(h0, .inr (8, [.ref h3, .ref h1, .ref h2, .int 0, v0])), (h1, .inl (cI, 30, .inl f1)), (h2, .inl (cI, 30, .inl f2)), (h3, .inr (1, [v3, v4, v5, v6, v7, v8, .int 0, v9]))] sz)) 0 0 (va_A [(h0, .inr (8, [.ref h3, .ref h1, .ref h2, .int 0, v0])), (h1, .inl (cI, 30, .inl f1)), (h2, .inl (cI, 30, .inl f2)), (h3, .inr (1, [v3, v4, v5, v6, v7, v8, .int 0, v9]))] sz) := by
  refine Met.ofW (cc := cX9_takeAll) (maxL := 2) (ret := none) (by decide) rfl ?_
  intro p e s m args below meth c s₁ B hml hv
  obtain ⟨rfl, hsz, hP, hK, hN, hD0⟩ := hv
  have hx := B.exec
  have hb := B.bytes
  have hr := B.returns
  have hts := atoms_spec (ws := u_X9_takeAll) B.pre
  have hown : s.vm.findClass RX9 = some m.cls := findClass_of_methodNamed B.named
  have hlocks := B.notSynchronized
  subst hsz
  have hD := hD0.self (sz := s.heap.size)
  generalize hAe : va_A [(h0, .inr (8, [.ref h3, .ref h1, .ref h2, .int 0, v0])), (h1, .inl (cI, 30, .inl f1)), (h2, .inl (cI, 30, .inl f2)), (h3, .inr (1, [v3, v4, v5, v6, v7, v8, .int 0, v9]))] s.heap.size = A at hD ⊢
  have hA : ∀ q : Nat, s.heap.size ≤ q → A q := fun q h => by rw [← hAe]; exact Or.inr h
  have hS : va_S A s.heap s.heap [] := va_S.rf
  have hP : va_P D vwCl [(h0, .inr (8, [.ref h3, .ref h1, .ref h2, .int 0, v0])), (h1, .inl (cI, 30, .inl f1)), (h2, .inl (cI, 30, .inl f2)), (h3, .inr (1, [v3, v4, v5, v6, v7, v8, .int 0, v9]))] s.heap := hP
  have hl := lv_entry ([.ref h0]) (n := 2) (Nat.le_of_ble_eq_true rfl)
  rw [lg_entry_eq]
  generalize (lg_sl ([.ref h0]) ++ List.replicate (2 - (lg_sl ([.ref h0])).length) Slot.unset).toArray = ls at hl ⊢
  have hl : lv_has ls 2 [(0, .ref h0)] := hl
  obtain ⟨H, hHe⟩ : ∃ H, s.heap = H := ⟨_, rfl⟩
  have hP : va_P D vwCl [(h0, .inr (8, [.ref h3, .ref h1, .ref h2, .int 0, v0])), (h1, .inl (cI, 30, .inl f1)), (h2, .inl (cI, 30, .inl f2)), (h3, .inr (1, [v3, v4, v5, v6, v7, v8, .int 0, v9]))] H := by rw [← hHe]; exact hP
  have hS : va_S A s.heap H [] := by rw [← hHe]; exact hS
  refine kn_heap hHe ?_
  refine lv_aload_n hx hb dX9_takeAll_0 rfl (lv_at hl 0 rfl) ?_
  have hPc := hP.sub (ws' := [(h0, .inr (8, [.ref h3, .ref h1, .ref h2, .int 0, v0])), (h1, .inl (cI, 30, .inl f1)), (h2, .inl (cI, 30, .inl f2))]) [0, 1, 2] rfl
  have hDc := hD.sub (ws' := [(h0, .inr (8, [.ref h3, .ref h1, .ref h2, .int 0, v0])), (h1, .inl (cI, 30, .inl f1)), (h2, .inl (cI, 30, .inl f2))]) [0, 1, 2] (by decide) rfl
  refine kn_callv (wr := [(h3, .inr (1, [v3, v4, v5, v6, v7, v8, .int 0, v9]))]) (cells' := 0) (slots' := 0) (va_runV (As := []) (rest := []) ⟨hx, hb, hml, hown, hts⟩ (c_X9_keepOrder l D cI cJ cZ cB H.size h0 h1 h2 (.ref h3) v0 f1 f2) (cwV 0 hts (goodIn_app (goodIn_of _ (by decide +kernel)) gs_X9_takeAll__X9_keepOrder) rfl rfl rfl (by decide +kernel) ⟨(Nat.le_of_ble_eq_true rfl), (Nat.le_of_ble_eq_true rfl)⟩) (kp_V 0 8 rfl rfl hPc hK hN hDc) rfl rfl hl.1 rfl (lv_room (Nat.le_of_ble_eq_true rfl)) dX9_takeAll_1 ⟨(Nat.le_of_ble_eq_true rfl), (Nat.le_of_ble_eq_true rfl)⟩) hS hA hP hD [0, 1, 2] [3] rfl rfl (by decide) (by decide) (Nat.le_of_ble_eq_true rfl) (Nat.le_of_ble_eq_true rfl) (fun u H locs hw_132 hP hD hS => ?_)
  obtain ⟨f_133, rfl⟩ : ∃ z, z = u := ⟨_, rfl⟩
  have hP : va_P D vwCl [(h3, .inr (1, [v3, v4, v5, v6, v7, v8, .int 0, v9])), (h0, .inr (8, [.ref h3, .ref h1, .ref h2, .int 0, .int 0])), (h1, .inl (cI, 30, .inl f1)), (h2, .inl (cI, 30, .inl f_133))] H := hP
  have hD : va_D A [(h3, .inr (1, [v3, v4, v5, v6, v7, v8, .int 0, v9])), (h0, .inr (8, [.ref h3, .ref h1, .ref h2, .int 0, .int 0])), (h1, .inl (cI, 30, .inl f1)), (h2, .inl (cI, 30, .inl f_133))] := hD
  refine lv_aload_n hx hb dX9_takeAll_4 rfl (lv_at hl 0 rfl) ?_
  refine lv_aload_n hx hb dX9_takeAll_5 rfl (lv_at hl 0 rfl) ?_
  refine va_get (D := D) (ci := 8) (v := .ref h3) (C := RX9) (T := TX9) (N := 5) hx hb hts inw_X9_takeAll_X9 hown hK hP 1 rfl rfl 0 (by decide) (hts (.fieldLink RX9 18 "EarTable$View" "grid" "LEarTable$Grid;") (by decide +kernel)) (fun _ h9 => h9) rfl dX9_takeAll_6 ?_
  refine va_getN (D := D) (ci := 1) (v := .int 0) (C := RX1) (T := TX1) (N := 8) hx hb hts inw_X9_takeAll_X1 hown hK hP 0 rfl rfl 6 (by decide) (va_Nw.use rfl (hN.1 (RX9, 29, "EarTable$Grid", "lines", "I") (by decide +kernel))) (fun _ h9 => h9) rfl dX9_takeAll_9 ?_
  refine va_put (D := D) (ci := 8) (v := .int 0) (ty := .int) (C := RX9) (T := TX9) (N := 5) hx hb hts inw_X9_takeAll_X9 tyX9 tyX9_ok nmX9 hown hK hP hD hS 1 rfl rfl 3 (by decide) (hts (.fieldLink RX9 22 "EarTable$View" "size" "I") (by decide +kernel)) (fun _ h9 => h9) rfl (by decide +kernel) rfl rfl (Nat.le_of_ble_eq_true rfl) dX9_takeAll_12 (fun H locs hP hD hS => ?_)
  have hP : va_P D vwCl [(h3, .inr (1, [v3, v4, v5, v6, v7, v8, .int 0, v9])), (h0, .inr (8, [.ref h3, .ref h1, .ref h2, .int 0, .int 0])), (h1, .inl (cI, 30, .inl f1)), (h2, .inl (cI, 30, .inl f_133))] H := hP
  have hD : va_D A [(h3, .inr (1, [v3, v4, v5, v6, v7, v8, .int 0, v9])), (h0, .inr (8, [.ref h3, .ref h1, .ref h2, .int 0, .int 0])), (h1, .inl (cI, 30, .inl f1)), (h2, .inl (cI, 30, .inl f_133))] := hD
  refine lv_iconst (v := 0) hx hb dX9_takeAll_15 (by decide) ?_
  refine lv_istore_n (lv' := [(1, .int 0), (0, .ref h0)]) hx hb dX9_takeAll_16 rfl hl (by decide) rfl (fun ls hl => ?_)
  refine lv_iload_n hx hb dX9_takeAll_17 rfl (lv_at hl 0 rfl) ?_
  refine lv_aload_n hx hb dX9_takeAll_18 rfl (lv_at hl 1 rfl) ?_
  refine va_get (D := D) (ci := 8) (v := .int 0) (C := RX9) (T := TX9) (N := 5) hx hb hts inw_X9_takeAll_X9 hown hK hP 1 rfl rfl 3 (by decide) (hts (.fieldLink RX9 22 "EarTable$View" "size" "I") (by decide +kernel)) (fun _ h9 => h9) rfl dX9_takeAll_19 ?_
  refine lv_icmp_ge (tgt := 38) hx hb dX9_takeAll_22 (by decide) (fun c_134 => ?_) (fun c_134 => ?_)
  · skip
    have hP9 := hP.sub (ws' := [(h0, .inr (8, [.ref h3, .ref h1, .ref h2, .int 0, .int 0])), (h1, .inl (cI, 30, .inl f1)), (h2, .inl (cI, 30, .inl f_133)), (h3, .inr (1, [v3, v4, v5, v6, v7, v8, .int 0, v9]))]) [1, 2, 3, 0] rfl
    have hD9 := hD.sub (ws' := [(h0, .inr (8, [.ref h3, .ref h1, .ref h2, .int 0, .int 0])), (h1, .inl (cI, 30, .inl f1)), (h2, .inl (cI, 30, .inl f_133)), (h3, .inr (1, [v3, v4, v5, v6, v7, v8, .int 0, v9]))]) [1, 2, 3, 0] (by decide) rfl
    exact W.vret hx hb hr (fun t ht hW => ⟨⟨f_133, rfl, trivial, by rw [ht]; exact hP9, hD9⟩, hS.F ht⟩) hS.2.2 dX9_takeAll_38
  · skip
    exact absurd rfl c_134
