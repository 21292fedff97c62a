def o_X7_init : List Cond := [.methodLink RX7 3 objectInit, .instanceMethod objectInit, .code objectInit ⟨#[0xb1]⟩ 1 none, .arrayClass .int, .fieldLink RX7 9 "EarTable$Tape" "bytes" "[I"]
def u_X7_init : List Cond := .code yX7_init cX7_init 1 none :: (o_X7_init ++ (wsX70 ++ ([] : List Cond)))
theorem inw_X7_init_X7 : ∀ w ∈ wsX70, w ∈ u_X7_init := fun w h => List.mem_cons_of_mem _ (List.mem_append_right _ (List.mem_append_left _ h))
set_option maxRecDepth 20000 in
theorem good_X7_init : u_X7_init.all goodWord = true := by decide +kernel
set_option maxRecDepth 20000 in
theorem in_X7_init : ∀ w ∈ u_X7_init, w ∈ lw_tbl := ma_cons inc_X7_init (ma_app (ma_pos o_X7_init [93, 86, 87, 103, 94] (by decide +kernel)) (ma_app inb_X7 ma_nil))
set_option maxHeartbeats 4000000 in
set_option maxRecDepth 100000 in
theorem c_X7_init (l : Launch) (D : va_G) (cI cJ cZ cB : ClassId) (sz : Nat) (h0 : Nat) (v0 : Value) (v1 : Value) : Met l yX7_init u_X7_init ({ frames := 1, cells := 1, slots := 1600, locals := 20 }) (va_Pc [.ref h0] (kPre D cI cJ cZ cB [(h0, .inr (6, [v0, v1]))] sz)) (va_Qv (fun (_ : Nat × (Nat → Int32)) => True) (kB D (fun (u : Nat × (Nat → Int32)) => [(h0, .inr (6, [.ref u.1, v1])), (u.1, .inl (cI, 1600, .inl u.2))]) (va_A [(h0, .inr (6, [v0, v1]))] sz)) (va_A [(h0, .inr (6, [v0, v1]))] sz)) 1 1600 (va_A [(h0, .inr (6, [v0, v1]))] sz) := by
  refine Met.ofW (cc := cX7_init) (maxL := 1) (ret := none) (by decide) rfl ?_
  intro p e s m args below meth c s₁ B hml hv
  obtain ⟨rfl, hsz, hP, hK, hN, hD0⟩ := hv
  have hx := B.exec
  have hb := B.bytes
  have hr := B.returns
  have hts := atoms_spec (ws := u_X7_init) B.pre
  have hown : s.vm.findClass RX7 = some m.cls := findClass_of_methodNamed B.named
  have hlocks := B.notSynchronized
  have hin : meth.name = "<init>" := (name_of_methodNamed B.named B.method).1
  subst hsz
  have hD := hD0.self (sz := s.heap.size)
  generalize hAe : va_A [(h0, .inr (6, [v0, v1]))] s.heap.size = A at hD ⊢
  have hA : ∀ q : Nat, s.heap.size ≤ q → A q := fun q h => by rw [← hAe]; exact Or.inr h
  have hS : va_S A s.heap s.heap [] := va_S.rf
  have hP : va_P D vwCl [(h0, .inr (6, [v0, v1]))] s.heap := hP
  have hl := lv_entry ([.ref h0]) (n := 1) (Nat.le_of_ble_eq_true rfl)
  rw [lg_entry_eq]
  generalize (lg_sl ([.ref h0]) ++ List.replicate (1 - (lg_sl ([.ref h0])).length) Slot.unset).toArray = ls at hl ⊢
  have hl : lv_has ls 1 [(0, .ref h0)] := hl
  obtain ⟨H, hHe⟩ : ∃ H, s.heap = H := ⟨_, rfl⟩
  have hP : va_P D vwCl [(h0, .inr (6, [v0, v1]))] H := by rw [← hHe]; exact hP
  have hS : va_S A s.heap H [] := by rw [← hHe]; exact hS
  refine kn_heap hHe ?_
  refine lv_aload_n hx hb dX7_init_0 rfl (lv_at hl 0 rfl) ?_
  refine W.objInit hx hb hown (hts (.methodLink RX7 3 objectInit) (by decide +kernel)) (hts (.instanceMethod objectInit) (by decide +kernel)) (hts (.code objectInit ⟨#[0xb1]⟩ 1 none) (by decide +kernel)) rfl (by rw [hml]; exact hl.1) rfl dX7_init_1 (Nat.le_of_ble_eq_true rfl) (Nat.le_of_ble_eq_true rfl) ?_
  refine W.eq (g2 := F0 m 4 ls []) rfl ?_
  refine lv_aload_n hx hb dX7_init_4 rfl (lv_at hl 0 rfl) ?_
  refine lv_sipush (v := 1600) hx hb dX7_init_5 (by decide) ?_
  refine kn_newi (ty := .int) (N' := 1600) hx hb (hts (.arrayClass .int) (by decide +kernel)) rfl hK hP hD hS hA 0 rfl (fun _ => rfl) (fun _ => rfl) (by decide) (by decide) (by decide) (Nat.le_of_ble_eq_true rfl) (Nat.le_of_ble_eq_true rfl) dX7_init_8 (fun q_3 f_4 H hP hD hS => ?_)
  have hP : va_P D vwCl [(h0, .inr (6, [v0, v1])), (q_3, .inl (cI, 1600, .inl f_4))] H := hP
  have hD : va_D A [(h0, .inr (6, [v0, v1])), (q_3, .inl (cI, 1600, .inl f_4))] := hD
  refine W.widen (k := 1) (n := 1600) (Nat.le_of_ble_eq_true rfl) (Nat.le_of_ble_eq_true rfl) ?_
  refine va_putF (D := D) (ci := 6) (v := .ref q_3) (ty := .array .int) (C := RX7) (T := TX7) (N := 2) hx hb hts inw_X7_init_X7 tyX7 tyX7_ok nmX7 hown hK hP hD hS 0 rfl rfl 0 (by decide) (hts (.fieldLink RX7 9 "EarTable$Tape" "bytes" "[I") (by decide +kernel)) (fun _ h9 => h9) rfl hin rfl (by decide +kernel) rfl rfl (Nat.le_of_ble_eq_true rfl) dX7_init_10 (fun H locs hP hD hS => ?_)
  have hP : va_P D vwCl [(h0, .inr (6, [.ref q_3, v1])), (q_3, .inl (cI, 1600, .inl f_4))] H := hP
  have hD : va_D A [(h0, .inr (6, [.ref q_3, v1])), (q_3, .inl (cI, 1600, .inl f_4))] := hD
  have hP9 := hP.sub (ws' := [(h0, .inr (6, [.ref q_3, v1])), (q_3, .inl (cI, 1600, .inl f_4))]) [0, 1] rfl
  have hD9 := hD.sub (ws' := [(h0, .inr (6, [.ref q_3, v1])), (q_3, .inl (cI, 1600, .inl f_4))]) [0, 1] (by decide) rfl
  exact W.vret hx hb hr (fun t ht hW => ⟨⟨(q_3, f_4), rfl, trivial, by rw [ht]; exact hP9, hD9⟩, hS.F ht⟩) hS.2.2 dX7_init_13
def o_X3_init : List Cond := [.methodLink RX3 3 objectInit, .instanceMethod objectInit, .code objectInit ⟨#[0xb1]⟩ 1 none, .fieldLink RX3 9 "EarTable$Scanner" "tape" "LEarTable$Tape;"]
def u_X3_init : List Cond := .code yX3_init cX3_init 2 none :: (o_X3_init ++ (wsX30 ++ ([] : List Cond)))
theorem inw_X3_init_X3 : ∀ w ∈ wsX30, w ∈ u_X3_init := fun w h => List.mem_cons_of_mem _ (List.mem_append_right _ (List.mem_append_left _ h))
set_option maxRecDepth 20000 in
theorem good_X3_init : u_X3_init.all goodWord = true := by decide +kernel
set_option maxRecDepth 20000 in
theorem in_X3_init : ∀ w ∈ u_X3_init, w ∈ lw_tbl := ma_cons inc_X3_init (ma_app (ma_pos o_X3_init [115, 86, 87, 116] (by decide +kernel)) (ma_app inb_X3 ma_nil))
set_option maxHeartbeats 4000000 in
set_option maxRecDepth 100000 in
theorem c_X3_init (l : Launch) (D : va_G) (cI cJ cZ cB : ClassId) (sz : Nat) (h0 : Nat) (v0 : Value) (v1 : Value) (v2 : Value) (v3 : Value) (v4 : Value) (a1 : Nat) : Met l yX3_init u_X3_init ({ frames := 1, cells := 0, slots := 0, locals := 20 }) (va_Pc [.ref h0, .ref a1] (kPre D cI cJ cZ cB [(h0, .inr (2, [v0, v1, v2, v3, v4]))] sz)) (va_Qv (fun (_ : Unit) => True) (kB D (fun (u : Unit) => [(h0, .inr (2, [.ref a1, v1, v2, v3, v4]))]) (va_A [(h0, .inr (2, [v0, v1, v2, v3, v4]))] sz)) (va_A [(h0, .inr (2, [v0, v1, v2, v3, v4]))] sz)) 0 0 (va_A [(h0, .inr (2, [v0, v1, v2, v3, v4]))] sz) := by
  refine Met.ofW (cc := cX3_init) (maxL := 2) (ret := none) (by decide) rfl ?_
  intro p e s m args below meth c s₁ B hml hv
  obtain ⟨rfl, hsz, hP, hK, hN, hD0⟩ := hv
  have hx := B.exec
  have hb := B.bytes
  have hr := B.returns
  have hts := atoms_spec (ws := u_X3_init) B.pre
  have hown : s.vm.findClass RX3 = some m.cls := findClass_of_methodNamed B.named
  have hlocks := B.notSynchronized
  have hin : meth.name = "<init>" := (name_of_methodNamed B.named B.method).1
  subst hsz
  have hD := hD0.self (sz := s.heap.size)
  generalize hAe : va_A [(h0, .inr (2, [v0, v1, v2, v3, v4]))] s.heap.size = A at hD ⊢
  have hA : ∀ q : Nat, s.heap.size ≤ q → A q := fun q h => by rw [← hAe]; exact Or.inr h
  have hS : va_S A s.heap s.heap [] := va_S.rf
  have hP : va_P D vwCl [(h0, .inr (2, [v0, v1, v2, v3, v4]))] s.heap := hP
  have hl := lv_entry ([.ref h0, .ref a1]) (n := 2) (Nat.le_of_ble_eq_true rfl)
  rw [lg_entry_eq]
  generalize (lg_sl ([.ref h0, .ref a1]) ++ List.replicate (2 - (lg_sl ([.ref h0, .ref a1])).length) Slot.unset).toArray = ls at hl ⊢
  have hl : lv_has ls 2 [(0, .ref h0), (1, .ref a1)] := hl
  obtain ⟨H, hHe⟩ : ∃ H, s.heap = H := ⟨_, rfl⟩
  have hP : va_P D vwCl [(h0, .inr (2, [v0, v1, v2, v3, v4]))] H := by rw [← hHe]; exact hP
  have hS : va_S A s.heap H [] := by rw [← hHe]; exact hS
  refine kn_heap hHe ?_
  refine lv_aload_n hx hb dX3_init_0 rfl (lv_at hl 0 rfl) ?_
  refine W.objInit hx hb hown (hts (.methodLink RX3 3 objectInit) (by decide +kernel)) (hts (.instanceMethod objectInit) (by decide +kernel)) (hts (.code objectInit ⟨#[0xb1]⟩ 1 none) (by decide +kernel)) rfl (by rw [hml]; exact hl.1) rfl dX3_init_1 (Nat.le_of_ble_eq_true rfl) (Nat.le_of_ble_eq_true rfl) ?_
  refine W.eq (g2 := F0 m 4 ls []) rfl ?_
  refine lv_aload_n hx hb dX3_init_4 rfl (lv_at hl 0 rfl) ?_
  refine lv_aload_n hx hb dX3_init_5 rfl (lv_at hl 1 rfl) ?_
  refine va_putF (D := D) (ci := 2) (v := .ref a1) (ty := .object "EarTable$Tape") (C := RX3) (T := TX3) (N := 5) hx hb hts inw_X3_init_X3 tyX3 tyX3_ok nmX3 hown hK hP hD hS 0 rfl rfl 0 (by decide) (hts (.fieldLink RX3 9 "EarTable$Scanner" "tape" "LEarTable$Tape;") (by decide +kernel)) (fun _ h9 => h9) rfl hin rfl (by decide +kernel) rfl rfl (Nat.le_of_ble_eq_true rfl) dX3_init_6 (fun H locs hP hD hS => ?_)
  have hP : va_P D vwCl [(h0, .inr (2, [.ref a1, v1, v2, v3, v4]))] H := hP
  have hD : va_D A [(h0, .inr (2, [.ref a1, v1, v2, v3, v4]))] := hD
  have hP9 := hP.sub (ws' := [(h0, .inr (2, [.ref a1, v1, v2, v3, v4]))]) [0] rfl
  have hD9 := hD.sub (ws' := [(h0, .inr (2, [.ref a1, v1, v2, v3, v4]))]) [0] (by decide) rfl
  exact W.vret hx hb hr (fun t ht hW => ⟨⟨(), rfl, trivial, by rw [ht]; exact hP9, hD9⟩, hS.F ht⟩) hS.2.2 dX3_init_9
def o_X1_init : List Cond := [.methodLink RX1 3 objectInit, .instanceMethod objectInit, .code objectInit ⟨#[0xb1]⟩ 1 none, .arrayClass .int, .fieldLink RX1 11 "EarTable$Grid" "firstColumns" "[I", .fieldLink RX1 15 "EarTable$Grid" "widths" "[I", .fieldLink RX1 18 "EarTable$Grid" "kinds" "[I", .arrayClass .long, .fieldLink RX1 21 "EarTable$Grid" "contents" "[J", .arrayClass .boolean, .fieldLink RX1 25 "EarTable$Grid" "sums" "[Z"]
def u_X1_init : List Cond := .code yX1_init cX1_init 1 none :: (o_X1_init ++ (wsX10 ++ ([] : List Cond)))
theorem inw_X1_init_X1 : ∀ w ∈ wsX10, w ∈ u_X1_init := fun w h => List.mem_cons_of_mem _ (List.mem_append_right _ (List.mem_append_left _ h))
set_option maxRecDepth 20000 in
theorem good_X1_init : u_X1_init.all goodWord = true := by decide +kernel
set_option maxRecDepth 20000 in
theorem in_X1_init : ∀ w ∈ u_X1_init, w ∈ lw_tbl := ma_cons inc_X1_init (ma_app (ma_pos o_X1_init [140, 86, 87, 103, 141, 143, 147, 187, 151, 188, 156] (by decide +kernel)) (ma_app inb_X1 ma_nil))
set_option maxHeartbeats 4000000 in
set_option maxRecDepth 100000 in
theorem c_X1_init (l : Launch) (D : va_G) (cI cJ cZ cB : ClassId) (sz : Nat) (h0 : Nat) (v0 : Value) (v1 : Value) (v2 : Value) (v3 : Value) (v4 : Value) (v5 : Value) (v6 : Value) (v7 : Value) : Met l yX1_init u_X1_init ({ frames := 1, cells := 5, slots := 1086, locals := 20 }) (va_Pc [.ref h0] (kPre D cI cJ cZ cB [(h0, .inr (1, [v0, v1, v2, v3, v4, v5, v6, v7]))] sz)) (va_Qv (fun (_ : Nat × Nat × Nat × Nat × Nat × (Nat → Int32) × (Nat → Int32) × (Nat → Int32) × (Nat → Int64) × (Nat → Int32)) => True) (kB D (fun (u : Nat × Nat × Nat × Nat × Nat × (Nat → Int32) × (Nat → Int32) × (Nat → Int32) × (Nat → Int64) × (Nat → Int32)) => [(h0, .inr (1, [.ref u.1, .ref u.2.1, .ref u.2.2.1, .ref u.2.2.2.1, .ref u.2.2.2.2.1, v5, v6, v7])), (u.1, .inl (cI, 264, .inl u.2.2.2.2.2.1)), (u.2.1, .inl (cI, 264, .inl u.2.2.2.2.2.2.1)), (u.2.2.1, .inl (cI, 264, .inl u.2.2.2.2.2.2.2.1)), (u.2.2.2.1, .inl (cJ, 264, .inr (.inl u.2.2.2.2.2.2.2.2.1))), (u.2.2.2.2.1, .inl (cZ, 30, .inl u.2.2.2.2.2.2.2.2.2))]) (va_A [(h0, .inr (1, [v0, v1, v2, v3, v4, v5, v6, v7]))] sz)) (va_A [(h0, .inr (1, [v0, v1, v2, v3, v4, v5, v6, v7]))] sz)) 5 1086 (va_A [(h0, .inr (1, [v0, v1, v2, v3, v4, v5, v6, v7]))] sz) := by
  refine Met.ofW (cc := cX1_init) (maxL := 1) (ret := none) (by decide) rfl ?_
  intro p e s m args below meth c s₁ B hml hv
  obtain ⟨rfl, hsz, hP, hK, hN, hD0⟩ := hv
  have hx := B.exec
  have hb := B.bytes
  have hr := B.returns
  have hts := atoms_spec (ws := u_X1_init) B.pre
  have hown : s.vm.findClass RX1 = some m.cls := findClass_of_methodNamed B.named
  have hlocks := B.notSynchronized
  have hin : meth.name = "<init>" := (name_of_methodNamed B.named B.method).1
  subst hsz
  have hD := hD0.self (sz := s.heap.size)
  generalize hAe : va_A [(h0, .inr (1, [v0, v1, v2, v3, v4, v5, v6, v7]))] s.heap.size = A at hD ⊢
  have hA : ∀ q : Nat, s.heap.size ≤ q → A q := fun q h => by rw [← hAe]; exact Or.inr h
  have hS : va_S A s.heap s.heap [] := va_S.rf
  have hP : va_P D vwCl [(h0, .inr (1, [v0, v1, v2, v3, v4, v5, v6, v7]))] s.heap := hP
  have hl := lv_entry ([.ref h0]) (n := 1) (Nat.le_of_ble_eq_true rfl)
  rw [lg_entry_eq]
  generalize (lg_sl ([.ref h0]) ++ List.replicate (1 - (lg_sl ([.ref h0])).length) Slot.unset).toArray = ls at hl ⊢
  have hl : lv_has ls 1 [(0, .ref h0)] := hl
  obtain ⟨H, hHe⟩ : ∃ H, s.heap = H := ⟨_, rfl⟩
  have hP : va_P D vwCl [(h0, .inr (1, [v0, v1, v2, v3, v4, v5, v6, v7]))] H := by rw [← hHe]; exact hP
  have hS : va_S A s.heap H [] := by rw [← hHe]; exact hS
  refine kn_heap hHe ?_
  refine lv_aload_n hx hb dX1_init_0 rfl (lv_at hl 0 rfl) ?_
  refine W.objInit hx hb hown (hts (.methodLink RX1 3 objectInit) (by decide +kernel)) (hts (.instanceMethod objectInit) (by decide +kernel)) (hts (.code objectInit ⟨#[0xb1]⟩ 1 none) (by decide +kernel)) rfl (by rw [hml]; exact hl.1) rfl dX1_init_1 (Nat.le_of_ble_eq_true rfl) (Nat.le_of_ble_eq_true rfl) ?_
  refine W.eq (g2 := F0 m 4 ls []) rfl ?_
  refine lv_aload_n hx hb dX1_init_4 rfl (lv_at hl 0 rfl) ?_
  refine lv_sipush (v := 264) hx hb dX1_init_5 (by decide) ?_
  refine kn_newi (ty := .int) (N' := 264) hx hb (hts (.arrayClass .int) (by decide +kernel)) rfl hK hP hD hS hA 0 rfl (fun _ => rfl) (fun _ => rfl) (by decide) (by decide) (by decide) (Nat.le_of_ble_eq_true rfl) (Nat.le_of_ble_eq_true rfl) dX1_init_8 (fun q_12 f_13 H hP hD hS => ?_)
  have hP : va_P D vwCl [(h0, .inr (1, [v0, v1, v2, v3, v4, v5, v6, v7])), (q_12, .inl (cI, 264, .inl f_13))] H := hP
  have hD : va_D A [(h0, .inr (1, [v0, v1, v2, v3, v4, v5, v6, v7])), (q_12, .inl (cI, 264, .inl f_13))] := hD
  refine W.widen (k := 1) (n := 264) (Nat.le_of_ble_eq_true rfl) (Nat.le_of_ble_eq_true rfl) ?_
  refine va_putF (D := D) (ci := 1) (v := .ref q_12) (ty := .array .int) (C := RX1) (T := TX1) (N := 8) hx hb hts inw_X1_init_X1 tyX1 tyX1_ok nmX1 hown hK hP hD hS 0 rfl rfl 0 (by decide) (hts (.fieldLink RX1 11 "EarTable$Grid" "firstColumns" "[I") (by decide +kernel)) (fun _ h9 => h9) rfl hin rfl (by decide +kernel) rfl rfl (Nat.le_of_ble_eq_true rfl) dX1_init_10 (fun H locs hP hD hS => ?_)
  have hP : va_P D vwCl [(h0, .inr (1, [.ref q_12, v1, v2, v3, v4, v5, v6, v7])), (q_12, .inl (cI, 264, .inl f_13))] H := hP
  have hD : va_D A [(h0, .inr (1, [.ref q_12, v1, v2, v3, v4, v5, v6, v7])), (q_12, .inl (cI, 264, .inl f_13))] := hD
  refine lv_aload_n hx hb dX1_init_13 rfl (lv_at hl 0 rfl) ?_
  refine lv_sipush (v := 264) hx hb dX1_init_14 (by decide) ?_
  refine kn_newi (ty := .int) (N' := 264) hx hb (hts (.arrayClass .int) (by decide +kernel)) rfl hK hP hD hS hA 0 rfl (fun _ => rfl) (fun _ => rfl) (by decide) (by decide) (by decide) (Nat.le_of_ble_eq_true rfl) (Nat.le_of_ble_eq_true rfl) dX1_init_17 (fun q_14 f_15 H hP hD hS => ?_)
  have hP : va_P D vwCl [(h0, .inr (1, [.ref q_12, v1, v2, v3, v4, v5, v6, v7])), (q_12, .inl (cI, 264, .inl f_13)), (q_14, .inl (cI, 264, .inl f_15))] H := hP
  have hD : va_D A [(h0, .inr (1, [.ref q_12, v1, v2, v3, v4, v5, v6, v7])), (q_12, .inl (cI, 264, .inl f_13)), (q_14, .inl (cI, 264, .inl f_15))] := hD
  refine W.widen (k := 2) (n := 528) (Nat.le_of_ble_eq_true rfl) (Nat.le_of_ble_eq_true rfl) ?_
  refine va_putF (D := D) (ci := 1) (v := .ref q_14) (ty := .array .int) (C := RX1) (T := TX1) (N := 8) hx hb hts inw_X1_init_X1 tyX1 tyX1_ok nmX1 hown hK hP hD hS 0 rfl rfl 1 (by decide) (hts (.fieldLink RX1 15 "EarTable$Grid" "widths" "[I") (by decide +kernel)) (fun _ h9 => h9) rfl hin rfl (by decide +kernel) rfl rfl (Nat.le_of_ble_eq_true rfl) dX1_init_19 (fun H locs hP hD hS => ?_)
  have hP : va_P D vwCl [(h0, .inr (1, [.ref q_12, .ref q_14, v2, v3, v4, v5, v6, v7])), (q_12, .inl (cI, 264, .inl f_13)), (q_14, .inl (cI, 264, .inl f_15))] H := hP
  have hD : va_D A [(h0, .inr (1, [.ref q_12, .ref q_14, v2, v3, v4, v5, v6, v7])), (q_12, .inl (cI, 264, .inl f_13)), (q_14, .inl (cI, 264, .inl f_15))] := hD
  refine lv_aload_n hx hb dX1_init_22 rfl (lv_at hl 0 rfl) ?_
  refine lv_sipush (v := 264) hx hb dX1_init_23 (by decide) ?_
  refine kn_newi (ty := .int) (N' := 264) hx hb (hts (.arrayClass .int) (by decide +kernel)) rfl hK hP hD hS hA 0 rfl (fun _ => rfl) (fun _ => rfl) (by decide) (by decide) (by decide) (Nat.le_of_ble_eq_true rfl) (Nat.le_of_ble_eq_true rfl) dX1_init_26 (fun q_16 f_17 H hP hD hS => ?_)
  have hP : va_P D vwCl [(h0, .inr (1, [.ref q_12, .ref q_14, v2, v3, v4, v5, v6, v7])), (q_12, .inl (cI, 264, .inl f_13)), (q_14, .inl (cI, 264, .inl f_15)), (q_16, .inl (cI, 264, .inl f_17))] H := hP
  have hD : va_D A [(h0, .inr (1, [.ref q_12, .ref q_14, v2, v3, v4, v5, v6, v7])), (q_12, .inl (cI, 264, .inl f_13)), (q_14, .inl (cI, 264, .inl f_15)), (q_16, .inl (cI, 264, .inl f_17))] := hD
  refine W.widen (k := 3) (n := 792) (Nat.le_of_ble_eq_true rfl) (Nat.le_of_ble_eq_true rfl) ?_
  refine va_putF (D := D) (ci := 1) (v := .ref q_16) (ty := .array .int) (C := RX1) (T := TX1) (N := 8) hx hb hts inw_X1_init_X1 tyX1 tyX1_ok nmX1 hown hK hP hD hS 0 rfl rfl 2 (by decide) (hts (.fieldLink RX1 18 "EarTable$Grid" "kinds" "[I") (by decide +kernel)) (fun _ h9 => h9) rfl hin rfl (by decide +kernel) rfl rfl (Nat.le_of_ble_eq_true rfl) dX1_init_28 (fun H locs hP hD hS => ?_)
  have hP : va_P D vwCl [(h0, .inr (1, [.ref q_12, .ref q_14, .ref q_16, v3, v4, v5, v6, v7])), (q_12, .inl (cI, 264, .inl f_13)), (q_14, .inl (cI, 264, .inl f_15)), (q_16, .inl (cI, 264, .inl f_17))] H := hP
  have hD : va_D A [(h0, .inr (1, [.ref q_12, .ref q_14, .ref q_16, v3, v4, v5, v6, v7])), (q_12, .inl (cI, 264, .inl f_13)), (q_14, .inl (cI, 264, .inl f_15)), (q_16, .inl (cI, 264, .inl f_17))] := hD
  refine lv_aload_n hx hb dX1_init_31 rfl (lv_at hl 0 rfl) ?_
  refine lv_sipush (v := 264) hx hb dX1_init_32 (by decide) ?_
  refine kn_newl (ty := .long) (N' := 264) hx hb (hts (.arrayClass .long) (by decide +kernel)) rfl hK hP hD hS hA 1 rfl (fun _ => rfl) (fun _ => rfl) (by decide) (by decide) (by decide) (Nat.le_of_ble_eq_true rfl) (Nat.le_of_ble_eq_true rfl) dX1_init_35 (fun q_18 f_19 H hP hD hS => ?_)
  have hP : va_P D vwCl [(h0, .inr (1, [.ref q_12, .ref q_14, .ref q_16, v3, v4, v5, v6, v7])), (q_12, .inl (cI, 264, .inl f_13)), (q_14, .inl (cI, 264, .inl f_15)), (q_16, .inl (cI, 264, .inl f_17)), (q_18, .inl (cJ, 264, .inr (.inl f_19)))] H := hP
  have hD : va_D A [(h0, .inr (1, [.ref q_12, .ref q_14, .ref q_16, v3, v4, v5, v6, v7])), (q_12, .inl (cI, 264, .inl f_13)), (q_14, .inl (cI, 264, .inl f_15)), (q_16, .inl (cI, 264, .inl f_17)), (q_18, .inl (cJ, 264, .inr (.inl f_19)))] := hD
  refine W.widen (k := 4) (n := 1056) (Nat.le_of_ble_eq_true rfl) (Nat.le_of_ble_eq_true rfl) ?_
  refine va_putF (D := D) (ci := 1) (v := .ref q_18) (ty := .array .long) (C := RX1) (T := TX1) (N := 8) hx hb hts inw_X1_init_X1 tyX1 tyX1_ok nmX1 hown hK hP hD hS 0 rfl rfl 3 (by decide) (hts (.fieldLink RX1 21 "EarTable$Grid" "contents" "[J") (by decide +kernel)) (fun _ h9 => h9) rfl hin rfl (by decide +kernel) rfl rfl (Nat.le_of_ble_eq_true rfl) dX1_init_37 (fun H locs hP hD hS => ?_)
  have hP : va_P D vwCl [(h0, .inr (1, [.ref q_12, .ref q_14, .ref q_16, .ref q_18, v4, v5, v6, v7])), (q_12, .inl (cI, 264, .inl f_13)), (q_14, .inl (cI, 264, .inl f_15)), (q_16, .inl (cI, 264, .inl f_17)), (q_18, .inl (cJ, 264, .inr (.inl f_19)))] H := hP
  have hD : va_D A [(h0, .inr (1, [.ref q_12, .ref q_14, .ref q_16, .ref q_18, v4, v5, v6, v7])), (q_12, .inl (cI, 264, .inl f_13)), (q_14, .inl (cI, 264, .inl f_15)), (q_16, .inl (cI, 264, .inl f_17)), (q_18, .inl (cJ, 264, .inr (.inl f_19)))] := hD
  refine lv_aload_n hx hb dX1_init_40 rfl (lv_at hl 0 rfl) ?_
  refine lv_bipush (v := 30) hx hb dX1_init_41 (by decide) ?_
  refine kn_newi (ty := .boolean) (N' := 30) hx hb (hts (.arrayClass .boolean) (by decide +kernel)) rfl hK hP hD hS hA 2 rfl (fun _ => rfl) (fun _ => rfl) (by decide) (by decide) (by decide) (Nat.le_of_ble_eq_true rfl) (Nat.le_of_ble_eq_true rfl) dX1_init_43 (fun q_20 f_21 H hP hD hS => ?_)
  have hP : va_P D vwCl [(h0, .inr (1, [.ref q_12, .ref q_14, .ref q_16, .ref q_18, v4, v5, v6, v7])), (q_12, .inl (cI, 264, .inl f_13)), (q_14, .inl (cI, 264, .inl f_15)), (q_16, .inl (cI, 264, .inl f_17)), (q_18, .inl (cJ, 264, .inr (.inl f_19))), (q_20, .inl (cZ, 30, .inl f_21))] H := hP
  have hD : va_D A [(h0, .inr (1, [.ref q_12, .ref q_14, .ref q_16, .ref q_18, v4, v5, v6, v7])), (q_12, .inl (cI, 264, .inl f_13)), (q_14, .inl (cI, 264, .inl f_15)), (q_16, .inl (cI, 264, .inl f_17)), (q_18, .inl (cJ, 264, .inr (.inl f_19))), (q_20, .inl (cZ, 30, .inl f_21))] := hD
  refine W.widen (k := 5) (n := 1086) (Nat.le_of_ble_eq_true rfl) (Nat.le_of_ble_eq_true rfl) ?_
  refine va_putF (D := D) (ci := 1) (v := .ref q_20) (ty := .array .boolean) (C := RX1) (T := TX1) (N := 8) hx hb hts inw_X1_init_X1 tyX1 tyX1_ok nmX1 hown hK hP hD hS 0 rfl rfl 4 (by decide) (hts (.fieldLink RX1 25 "EarTable$Grid" "sums" "[Z") (by decide +kernel)) (fun _ h9 => h9) rfl hin rfl (by decide +kernel) rfl rfl (Nat.le_of_ble_eq_true rfl) dX1_init_45 (fun H locs hP hD hS => ?_)
  have hP : va_P D vwCl [(h0, .inr (1, [.ref q_12, .ref q_14, .ref q_16, .ref q_18, .ref q_20, v5, v6, v7])), (q_12, .inl (cI, 264, .inl f_13)), (q_14, .inl (cI, 264, .inl f_15)), (q_16, .inl (cI, 264, .inl f_17)), (q_18, .inl (cJ, 264, .inr (.inl f_19))), (q_20, .inl (cZ, 30, .inl f_21))] H := hP
  have hD : va_D A [(h0, .inr (1, [.ref q_12, .ref q_14, .ref q_16, .ref q_18, .ref q_20, v5, v6, v7])), (q_12, .inl (cI, 264, .inl f_13)), (q_14, .inl (cI, 264, .inl f_15)), (q_16, .inl (cI, 264, .inl f_17)), (q_18, .inl (cJ, 264, .inr (.inl f_19))), (q_20, .inl (cZ, 30, .inl f_21))] := hD
  have hP9 := hP.sub (ws' := [(h0, .inr (1, [.ref q_12, .ref q_14, .ref q_16, .ref q_18, .ref q_20, v5, v6, v7])), (q_12, .inl (cI, 264, .inl f_13)), (q_14, .inl (cI, 264, .inl f_15)), (q_16, .inl (cI, 264, .inl f_17)), (q_18, .inl (cJ, 264, .inr (.inl f_19))), (q_20, .inl (cZ, 30, .inl f_21))]) [0, 1, 2, 3, 4, 5] rfl
  have hD9 := hD.sub (ws' := [(h0, .inr (1, [.ref q_12, .ref q_14, .ref q_16, .ref q_18, .ref q_20, v5, v6, v7])), (q_12, .inl (cI, 264, .inl f_13)), (q_14, .inl (cI, 264, .inl f_15)), (q_16, .inl (cI, 264, .inl f_17)), (q_18, .inl (cJ, 264, .inr (.inl f_19))), (q_20, .inl (cZ, 30, .inl f_21))]) [0, 1, 2, 3, 4, 5] (by decide) rfl
  exact W.vret hx hb hr (fun t ht hW => ⟨⟨(q_12, q_14, q_16, q_18, q_20, f_13, f_15, f_17, f_19, f_21), rfl, trivial, by rw [ht]; exact hP9, hD9⟩, hS.F ht⟩) hS.2.2 dX1_init_48
def o_X6_init : List Cond := [.methodLink RX6 3 objectInit, .instanceMethod objectInit, .code objectInit ⟨#[0xb1]⟩ 1 none, .classLink RX6 9 RX3, .instantiable RX3 5, .initialized RX3, .methodLink RX6 11 yX3_init, .instanceMethod yX3_init, .fieldLink RX6 14 "EarTable$TableReader" "scanner" "LEarTable$Scanner;", .classLink RX6 20 RX1, .instantiable RX1 8, .initialized RX1, .instanceMethod yX1_init, .fieldLink RX6 23 "EarTable$TableReader" "grid" "LEarTable$Grid;", .fieldLink RX6 27 "EarTable$TableReader" "faultKind" "I", .fieldLink RX6 31 "EarTable$TableReader" "faultPlace" "I"]
def u_X6_init : List Cond := .code yX6_init cX6_init 2 none :: (o_X6_init ++ (u_X3_init ++ (u_X1_init ++ (wsX30 ++ (wsX60 ++ (wsX10 ++ ([] : List Cond)))))))
theorem gs_X6_init__X3_init : GoodIn u_X6_init u_X3_init := goodIn_sub (fun w h => List.mem_cons_of_mem _ (List.mem_append_right _ (List.mem_append_left _ h))) good_X3_init
theorem gs_X6_init__X1_init : GoodIn u_X6_init u_X1_init := goodIn_sub (fun w h => List.mem_cons_of_mem _ (List.mem_append_right _ (List.mem_append_right _ (List.mem_append_left _ h)))) good_X1_init
theorem inw_X6_init_X3 : ∀ w ∈ wsX30, w ∈ u_X6_init := fun w h => List.mem_cons_of_mem _ (List.mem_append_right _ (List.mem_append_right _ (List.mem_append_right _ (List.mem_append_left _ h))))
theorem inw_X6_init_X6 : ∀ w ∈ wsX60, w ∈ u_X6_init := fun w h => List.mem_cons_of_mem _ (List.mem_append_right _ (List.mem_append_right _ (List.mem_append_right _ (List.mem_append_right _ (List.mem_append_left _ h)))))
theorem inw_X6_init_X1 : ∀ w ∈ wsX10, w ∈ u_X6_init := fun w h => List.mem_cons_of_mem _ (List.mem_append_right _ (List.mem_append_right _ (List.mem_append_right _ (List.mem_append_right _ (List.mem_append_right _ (List.mem_append_left _ h))))))
set_option maxRecDepth 20000 in
theorem good_X6_init : u_X6_init.all goodWord = true := by decide +kernel
set_option maxRecDepth 20000 in
theorem in_X6_init : ∀ w ∈ u_X6_init, w ∈ lw_tbl := ma_cons inc_X6_init (ma_app (ma_pos o_X6_init [109, 86, 87, 110, 111, 67, 112, 113, 189, 135, 136, 68, 138, 190, 192, 194] (by decide +kernel)) (ma_app in_X3_init (ma_app in_X1_init (ma_app inb_X3 (ma_app inb_X6 (ma_app inb_X1 ma_nil))))))
set_option maxHeartbeats 4000000 in
set_option maxRecDepth 100000 in
theorem c_X6_init (l : Launch) (D : va_G) (cI cJ cZ cB : ClassId) (sz : Nat) (h0 : Nat) (v0 : Value) (v1 : Value) (v2 : Value) (v3 : Value) (a1 : Nat) : Met l yX6_init u_X6_init ({ frames := 2, cells := 7, slots := 1099, locals := 41 }) (va_Pc [.ref h0, .ref a1] (kPre D cI cJ cZ cB [(h0, .inr (5, [v0, v1, v2, v3]))] sz)) (va_Qv (fun (_ : Nat × Nat × Nat × Nat × Nat × Nat × Nat × (Nat → Int32) × (Nat → Int32) × (Nat → Int32) × (Nat → Int64) × (Nat → Int32)) => True) (kB D (fun (u : Nat × Nat × Nat × Nat × Nat × Nat × Nat × (Nat → Int32) × (Nat → Int32) × (Nat → Int32) × (Nat → Int64) × (Nat → Int32)) => [(h0, .inr (5, [.ref u.1, .ref u.2.1, .int 0, .int (-1)])), (u.1, .inr (2, [.ref a1, .int 0, .int 0, .int 0, .long 0])), (u.2.1, .inr (1, [.ref u.2.2.1, .ref u.2.2.2.1, .ref u.2.2.2.2.1, .ref u.2.2.2.2.2.1, .ref u.2.2.2.2.2.2.1, .int 0, .int 0, .int 0])), (u.2.2.1, .inl (cI, 264, .inl u.2.2.2.2.2.2.2.1)), (u.2.2.2.1, .inl (cI, 264, .inl u.2.2.2.2.2.2.2.2.1)), (u.2.2.2.2.1, .inl (cI, 264, .inl u.2.2.2.2.2.2.2.2.2.1)), (u.2.2.2.2.2.1, .inl (cJ, 264, .inr (.inl u.2.2.2.2.2.2.2.2.2.2.1))), (u.2.2.2.2.2.2.1, .inl (cZ, 30, .inl u.2.2.2.2.2.2.2.2.2.2.2))]) (va_A [(h0, .inr (5, [v0, v1, v2, v3]))] sz)) (va_A [(h0, .inr (5, [v0, v1, v2, v3]))] sz)) 7 1099 (va_A [(h0, .inr (5, [v0, v1, v2, v3]))] sz) := by
  refine Met.ofW (cc := cX6_init) (maxL := 2) (ret := none) (by decide) rfl ?_
  intro p e s m args below meth c s₁ B hml hv
  obtain ⟨rfl, hsz, hP, hK, hN, hD0⟩ := hv
  have hx := B.exec
  have hb := B.bytes
  have hr := B.returns
  have hts := atoms_spec (ws := u_X6_init) B.pre
  have hown : s.vm.findClass RX6 = some m.cls := findClass_of_methodNamed B.named
  have hlocks := B.notSynchronized
  have hin : meth.name = "<init>" := (name_of_methodNamed B.named B.method).1
  subst hsz
  have hD := hD0.self (sz := s.heap.size)
  generalize hAe : va_A [(h0, .inr (5, [v0, v1, v2, v3]))] s.heap.size = A at hD ⊢
  have hA : ∀ q : Nat, s.heap.size ≤ q → A q := fun q h => by rw [← hAe]; exact Or.inr h
  have hS : va_S A s.heap s.heap [] := va_S.rf
  have hP : va_P D vwCl [(h0, .inr (5, [v0, v1, v2, v3]))] s.heap := hP
  have hl := lv_entry ([.ref h0, .ref a1]) (n := 2) (Nat.le_of_ble_eq_true rfl)
  rw [lg_entry_eq]
  generalize (lg_sl ([.ref h0, .ref a1]) ++ List.replicate (2 - (lg_sl ([.ref h0, .ref a1])).length) Slot.unset).toArray = ls at hl ⊢
  have hl : lv_has ls 2 [(0, .ref h0), (1, .ref a1)] := hl
  obtain ⟨H, hHe⟩ : ∃ H, s.heap = H := ⟨_, rfl⟩
  have hP : va_P D vwCl [(h0, .inr (5, [v0, v1, v2, v3]))] H := by rw [← hHe]; exact hP
  have hS : va_S A s.heap H [] := by rw [← hHe]; exact hS
  refine kn_heap hHe ?_
  refine lv_aload_n hx hb dX6_init_0 rfl (lv_at hl 0 rfl) ?_
  refine W.objInit hx hb hown (hts (.methodLink RX6 3 objectInit) (by decide +kernel)) (hts (.instanceMethod objectInit) (by decide +kernel)) (hts (.code objectInit ⟨#[0xb1]⟩ 1 none) (by decide +kernel)) rfl (by rw [hml]; exact hl.1) rfl dX6_init_1 (Nat.le_of_ble_eq_true rfl) (Nat.le_of_ble_eq_true rfl) ?_
  refine W.eq (g2 := F0 m 4 ls []) rfl ?_
  refine lv_aload_n hx hb dX6_init_4 rfl (lv_at hl 0 rfl) ?_
  refine va_new (ci := 2) (fs := [.null, .int 0, .int 0, .int 0, .long 0]) (C := RX3) (T := TX3) (N := 5) hx hb hts inw_X6_init_X3 tyX3 tyX3_ok hown (hts (.classLink RX6 9 RX3) (by decide +kernel)) (hts (.instantiable RX3 5) (by decide +kernel)) (hts (.initialized RX3) (by decide +kernel)) hK hP hD hS hA rfl (fun j hj => match j, hj with | 0, _ => rfl | 1, _ => rfl | 2, _ => rfl | 3, _ => rfl | 4, _ => rfl | n + 5, h => absurd h (by omega)) (Nat.le_of_ble_eq_true rfl) (Nat.le_of_ble_eq_true rfl) dX6_init_5 (fun q_9 H hP hD hS => ?_)
  have hP : va_P D vwCl [(h0, .inr (5, [v0, v1, v2, v3])), (q_9, .inr (2, [.null, .int 0, .int 0, .int 0, .long 0]))] H := hP
  have hD : va_D A [(h0, .inr (5, [v0, v1, v2, v3])), (q_9, .inr (2, [.null, .int 0, .int 0, .int 0, .long 0]))] := hD
  refine W.widen (k := 1) (n := 5) (Nat.le_of_ble_eq_true rfl) (Nat.le_of_ble_eq_true rfl) ?_
  refine lv_dup hx hb dX6_init_8 rfl ?_
  refine lv_aload_n hx hb dX6_init_9 rfl (lv_at hl 1 rfl) ?_
  have hPc := hP.sub (ws' := [(q_9, .inr (2, [.null, .int 0, .int 0, .int 0, .long 0]))]) [1] rfl
  have hDc := hD.sub (ws' := [(q_9, .inr (2, [.null, .int 0, .int 0, .int 0, .long 0]))]) [1] (by decide) rfl
  refine kn_callv (wr := [(h0, .inr (5, [v0, v1, v2, v3]))]) (cells' := 1) (slots' := 5) (va_runI (As := [.ref a1]) (rest := [.ref q_9, .ref h0]) ⟨hx, hb, hml, hown, hts⟩ (c_X3_init l D cI cJ cZ cB H.size q_9 .null (.int 0) (.int 0) (.int 0) (.long 0) a1) (cwI 1 hts gs_X6_init__X3_init rfl rfl rfl (hts (.initialized RX3) (by decide +kernel)) (hts (.methodLink RX6 11 yX3_init) (by decide +kernel)) (hts (.instanceMethod yX3_init) (by decide +kernel)) rfl (by decide +kernel) ⟨(Nat.le_of_ble_eq_true rfl), (Nat.le_of_ble_eq_true rfl)⟩) (kp_S hPc hK hN hDc) rfl rfl hl.1 rfl (lv_room (Nat.le_of_ble_eq_true rfl)) dX6_init_10 ⟨(Nat.le_of_ble_eq_true rfl), (Nat.le_of_ble_eq_true rfl)⟩) hS hA hP hD [1] [0] rfl rfl (by decide) (by decide) (Nat.le_of_ble_eq_true rfl) (Nat.le_of_ble_eq_true rfl) (fun u H locs hw_10 hP hD hS => ?_)
  have hP : va_P D vwCl [(h0, .inr (5, [v0, v1, v2, v3])), (q_9, .inr (2, [.ref a1, .int 0, .int 0, .int 0, .long 0]))] H := hP
  have hD : va_D A [(h0, .inr (5, [v0, v1, v2, v3])), (q_9, .inr (2, [.ref a1, .int 0, .int 0, .int 0, .long 0]))] := hD
  refine va_putF (D := D) (ci := 5) (v := .ref q_9) (ty := .object "EarTable$Scanner") (C := RX6) (T := TX6) (N := 4) hx hb hts inw_X6_init_X6 tyX6 tyX6_ok nmX6 hown hK hP hD hS 0 rfl rfl 0 (by decide) (hts (.fieldLink RX6 14 "EarTable$TableReader" "scanner" "LEarTable$Scanner;") (by decide +kernel)) (fun _ h9 => h9) rfl hin rfl (by decide +kernel) rfl rfl (Nat.le_of_ble_eq_true rfl) dX6_init_13 (fun H locs hP hD hS => ?_)
  have hP : va_P D vwCl [(h0, .inr (5, [.ref q_9, v1, v2, v3])), (q_9, .inr (2, [.ref a1, .int 0, .int 0, .int 0, .long 0]))] H := hP
  have hD : va_D A [(h0, .inr (5, [.ref q_9, v1, v2, v3])), (q_9, .inr (2, [.ref a1, .int 0, .int 0, .int 0, .long 0]))] := hD
  refine lv_aload_n hx hb dX6_init_16 rfl (lv_at hl 0 rfl) ?_
  refine va_new (ci := 1) (fs := [.null, .null, .null, .null, .null, .int 0, .int 0, .int 0]) (C := RX1) (T := TX1) (N := 8) hx hb hts inw_X6_init_X1 tyX1 tyX1_ok hown (hts (.classLink RX6 20 RX1) (by decide +kernel)) (hts (.instantiable RX1 8) (by decide +kernel)) (hts (.initialized RX1) (by decide +kernel)) hK hP hD hS hA rfl (fun j hj => match j, hj with | 0, _ => rfl | 1, _ => rfl | 2, _ => rfl | 3, _ => rfl | 4, _ => rfl | 5, _ => rfl | 6, _ => rfl | 7, _ => rfl | n + 8, h => absurd h (by omega)) (Nat.le_of_ble_eq_true rfl) (Nat.le_of_ble_eq_true rfl) dX6_init_17 (fun q_11 H hP hD hS => ?_)
  have hP : va_P D vwCl [(h0, .inr (5, [.ref q_9, v1, v2, v3])), (q_9, .inr (2, [.ref a1, .int 0, .int 0, .int 0, .long 0])), (q_11, .inr (1, [.null, .null, .null, .null, .null, .int 0, .int 0, .int 0]))] H := hP
  have hD : va_D A [(h0, .inr (5, [.ref q_9, v1, v2, v3])), (q_9, .inr (2, [.ref a1, .int 0, .int 0, .int 0, .long 0])), (q_11, .inr (1, [.null, .null, .null, .null, .null, .int 0, .int 0, .int 0]))] := hD
  refine W.widen (k := 2) (n := 13) (Nat.le_of_ble_eq_true rfl) (Nat.le_of_ble_eq_true rfl) ?_
  refine lv_dup hx hb dX6_init_20 rfl ?_
  have hPc := hP.sub (ws' := [(q_11, .inr (1, [.null, .null, .null, .null, .null, .int 0, .int 0, .int 0]))]) [2] rfl
  have hDc := hD.sub (ws' := [(q_11, .inr (1, [.null, .null, .null, .null, .null, .int 0, .int 0, .int 0]))]) [2] (by decide) rfl
  refine kn_callv (wr := [(h0, .inr (5, [.ref q_9, v1, v2, v3])), (q_9, .inr (2, [.ref a1, .int 0, .int 0, .int 0, .long 0]))]) (cells' := 7) (slots' := 1099) (va_runIN (As := []) (rest := [.ref q_11, .ref h0]) ⟨hx, hb, hml, hown, hts⟩ (c_X1_init l D cI cJ cZ cB H.size q_11 .null .null .null .null .null (.int 0) (.int 0) (.int 0)) ⟨va_cnB 0 hts gs_X6_init__X1_init rfl rfl rfl (hN.2 (RX6, 22, yX1_init) (by decide +kernel)) (hts (.initialized RX1) (by decide +kernel)) (by decide +kernel) ⟨(Nat.le_of_ble_eq_true rfl), (Nat.le_of_ble_eq_true rfl)⟩, rfl, (hts (.instanceMethod yX1_init) (by decide +kernel))⟩ (kp_S hPc hK hN hDc) rfl rfl hl.1 rfl (lv_room (Nat.le_of_ble_eq_true rfl)) dX6_init_21 ⟨(Nat.le_of_ble_eq_true rfl), (Nat.le_of_ble_eq_true rfl)⟩) hS hA hP hD [2] [0, 1] rfl rfl (by decide) (by decide) (Nat.le_of_ble_eq_true rfl) (Nat.le_of_ble_eq_true rfl) (fun u H locs hw_12 hP hD hS => ?_)
  obtain ⟨q_13, q_14, q_15, q_16, q_17, f_18, f_19, f_20, f_21, f_22⟩ := u
  have hP : va_P D vwCl [(h0, .inr (5, [.ref q_9, v1, v2, v3])), (q_9, .inr (2, [.ref a1, .int 0, .int 0, .int 0, .long 0])), (q_11, .inr (1, [.ref q_13, .ref q_14, .ref q_15, .ref q_16, .ref q_17, .int 0, .int 0, .int 0])), (q_13, .inl (cI, 264, .inl f_18)), (q_14, .inl (cI, 264, .inl f_19)), (q_15, .inl (cI, 264, .inl f_20)), (q_16, .inl (cJ, 264, .inr (.inl f_21))), (q_17, .inl (cZ, 30, .inl f_22))] H := hP
  have hD : va_D A [(h0, .inr (5, [.ref q_9, v1, v2, v3])), (q_9, .inr (2, [.ref a1, .int 0, .int 0, .int 0, .long 0])), (q_11, .inr (1, [.ref q_13, .ref q_14, .ref q_15, .ref q_16, .ref q_17, .int 0, .int 0, .int 0])), (q_13, .inl (cI, 264, .inl f_18)), (q_14, .inl (cI, 264, .inl f_19)), (q_15, .inl (cI, 264, .inl f_20)), (q_16, .inl (cJ, 264, .inr (.inl f_21))), (q_17, .inl (cZ, 30, .inl f_22))] := hD
  refine va_putF (D := D) (ci := 5) (v := .ref q_11) (ty := .object "EarTable$Grid") (C := RX6) (T := TX6) (N := 4) hx hb hts inw_X6_init_X6 tyX6 tyX6_ok nmX6 hown hK hP hD hS 0 rfl rfl 1 (by decide) (hts (.fieldLink RX6 23 "EarTable$TableReader" "grid" "LEarTable$Grid;") (by decide +kernel)) (fun _ h9 => h9) rfl hin rfl (by decide +kernel) rfl rfl (Nat.le_of_ble_eq_true rfl) dX6_init_24 (fun H locs hP hD hS => ?_)
  have hP : va_P D vwCl [(h0, .inr (5, [.ref q_9, .ref q_11, v2, v3])), (q_9, .inr (2, [.ref a1, .int 0, .int 0, .int 0, .long 0])), (q_11, .inr (1, [.ref q_13, .ref q_14, .ref q_15, .ref q_16, .ref q_17, .int 0, .int 0, .int 0])), (q_13, .inl (cI, 264, .inl f_18)), (q_14, .inl (cI, 264, .inl f_19)), (q_15, .inl (cI, 264, .inl f_20)), (q_16, .inl (cJ, 264, .inr (.inl f_21))), (q_17, .inl (cZ, 30, .inl f_22))] H := hP
  have hD : va_D A [(h0, .inr (5, [.ref q_9, .ref q_11, v2, v3])), (q_9, .inr (2, [.ref a1, .int 0, .int 0, .int 0, .long 0])), (q_11, .inr (1, [.ref q_13, .ref q_14, .ref q_15, .ref q_16, .ref q_17, .int 0, .int 0, .int 0])), (q_13, .inl (cI, 264, .inl f_18)), (q_14, .inl (cI, 264, .inl f_19)), (q_15, .inl (cI, 264, .inl f_20)), (q_16, .inl (cJ, 264, .inr (.inl f_21))), (q_17, .inl (cZ, 30, .inl f_22))] := hD
  refine lv_aload_n hx hb dX6_init_27 rfl (lv_at hl 0 rfl) ?_
  refine lv_iconst (v := 0) hx hb dX6_init_28 (by decide) ?_
  refine va_put (D := D) (ci := 5) (v := .int 0) (ty := .int) (C := RX6) (T := TX6) (N := 4) hx hb hts inw_X6_init_X6 tyX6 tyX6_ok nmX6 hown hK hP hD hS 0 rfl rfl 2 (by decide) (hts (.fieldLink RX6 27 "EarTable$TableReader" "faultKind" "I") (by decide +kernel)) (fun _ h9 => h9) rfl (by decide +kernel) rfl rfl (Nat.le_of_ble_eq_true rfl) dX6_init_29 (fun H locs hP hD hS => ?_)
  have hP : va_P D vwCl [(h0, .inr (5, [.ref q_9, .ref q_11, .int 0, v3])), (q_9, .inr (2, [.ref a1, .int 0, .int 0, .int 0, .long 0])), (q_11, .inr (1, [.ref q_13, .ref q_14, .ref q_15, .ref q_16, .ref q_17, .int 0, .int 0, .int 0])), (q_13, .inl (cI, 264, .inl f_18)), (q_14, .inl (cI, 264, .inl f_19)), (q_15, .inl (cI, 264, .inl f_20)), (q_16, .inl (cJ, 264, .inr (.inl f_21))), (q_17, .inl (cZ, 30, .inl f_22))] H := hP
  have hD : va_D A [(h0, .inr (5, [.ref q_9, .ref q_11, .int 0, v3])), (q_9, .inr (2, [.ref a1, .int 0, .int 0, .int 0, .long 0])), (q_11, .inr (1, [.ref q_13, .ref q_14, .ref q_15, .ref q_16, .ref q_17, .int 0, .int 0, .int 0])), (q_13, .inl (cI, 264, .inl f_18)), (q_14, .inl (cI, 264, .inl f_19)), (q_15, .inl (cI, 264, .inl f_20)), (q_16, .inl (cJ, 264, .inr (.inl f_21))), (q_17, .inl (cZ, 30, .inl f_22))] := hD
  refine lv_aload_n hx hb dX6_init_32 rfl (lv_at hl 0 rfl) ?_
  refine lv_iconst (v := (-1)) hx hb dX6_init_33 (by decide) ?_
  refine va_put (D := D) (ci := 5) (v := .int (-1)) (ty := .int) (C := RX6) (T := TX6) (N := 4) hx hb hts inw_X6_init_X6 tyX6 tyX6_ok nmX6 hown hK hP hD hS 0 rfl rfl 3 (by decide) (hts (.fieldLink RX6 31 "EarTable$TableReader" "faultPlace" "I") (by decide +kernel)) (fun _ h9 => h9) rfl (by decide +kernel) rfl rfl (Nat.le_of_ble_eq_true rfl) dX6_init_34 (fun H locs hP hD hS => ?_)
  have hP : va_P D vwCl [(h0, .inr (5, [.ref q_9, .ref q_11, .int 0, .int (-1)])), (q_9, .inr (2, [.ref a1, .int 0, .int 0, .int 0, .long 0])), (q_11, .inr (1, [.ref q_13, .ref q_14, .ref q_15, .ref q_16, .ref q_17, .int 0, .int 0, .int 0])), (q_13, .inl (cI, 264, .inl f_18)), (q_14, .inl (cI, 264, .inl f_19)), (q_15, .inl (cI, 264, .inl f_20)), (q_16, .inl (cJ, 264, .inr (.inl f_21))), (q_17, .inl (cZ, 30, .inl f_22))] H := hP
  have hD : va_D A [(h0, .inr (5, [.ref q_9, .ref q_11, .int 0, .int (-1)])), (q_9, .inr (2, [.ref a1, .int 0, .int 0, .int 0, .long 0])), (q_11, .inr (1, [.ref q_13, .ref q_14, .ref q_15, .ref q_16, .ref q_17, .int 0, .int 0, .int 0])), (q_13, .inl (cI, 264, .inl f_18)), (q_14, .inl (cI, 264, .inl f_19)), (q_15, .inl (cI, 264, .inl f_20)), (q_16, .inl (cJ, 264, .inr (.inl f_21))), (q_17, .inl (cZ, 30, .inl f_22))] := hD
  have hP9 := hP.sub (ws' := [(h0, .inr (5, [.ref q_9, .ref q_11, .int 0, .int (-1)])), (q_9, .inr (2, [.ref a1, .int 0, .int 0, .int 0, .long 0])), (q_11, .inr (1, [.ref q_13, .ref q_14, .ref q_15, .ref q_16, .ref q_17, .int 0, .int 0, .int 0])), (q_13, .inl (cI, 264, .inl f_18)), (q_14, .inl (cI, 264, .inl f_19)), (q_15, .inl (cI, 264, .inl f_20)), (q_16, .inl (cJ, 264, .inr (.inl f_21))), (q_17, .inl (cZ, 30, .inl f_22))]) [0, 1, 2, 3, 4, 5, 6, 7] rfl
  have hD9 := hD.sub (ws' := [(h0, .inr (5, [.ref q_9, .ref q_11, .int 0, .int (-1)])), (q_9, .inr (2, [.ref a1, .int 0, .int 0, .int 0, .long 0])), (q_11, .inr (1, [.ref q_13, .ref q_14, .ref q_15, .ref q_16, .ref q_17, .int 0, .int 0, .int 0])), (q_13, .inl (cI, 264, .inl f_18)), (q_14, .inl (cI, 264, .inl f_19)), (q_15, .inl (cI, 264, .inl f_20)), (q_16, .inl (cJ, 264, .inr (.inl f_21))), (q_17, .inl (cZ, 30, .inl f_22))]) [0, 1, 2, 3, 4, 5, 6, 7] (by decide) rfl
  exact W.vret hx hb hr (fun t ht hW => ⟨⟨(q_9, q_11, q_13, q_14, q_15, q_16, q_17, f_18, f_19, f_20, f_21, f_22), rfl, trivial, by rw [ht]; exact hP9, hD9⟩, hS.F ht⟩) hS.2.2 dX6_init_37
def o_X9_init : List Cond := [.methodLink RX9 3 objectInit, .instanceMethod objectInit, .code objectInit ⟨#[0xb1]⟩ 1 none, .arrayClass .int, .fieldLink RX9 9 "EarTable$View" "order" "[I", .fieldLink RX9 15 "EarTable$View" "orderBefore" "[I", .fieldLink RX9 18 "EarTable$View" "grid" "LEarTable$Grid;"]
def u_X9_init : List Cond := .code yX9_init cX9_init 2 none :: (o_X9_init ++ (wsX90 ++ ([] : List Cond)))
theorem inw_X9_init_X9 : ∀ w ∈ wsX90, w ∈ u_X9_init := fun w h => List.mem_cons_of_mem _ (List.mem_append_right _ (List.mem_append_left _ h))
set_option maxRecDepth 20000 in
theorem good_X9_init : u_X9_init.all goodWord = true := by decide +kernel
set_option maxRecDepth 20000 in
theorem in_X9_init : ∀ w ∈ u_X9_init, w ∈ lw_tbl := ma_cons inc_X9_init (ma_app (ma_pos o_X9_init [212, 86, 87, 103, 214, 216, 213] (by decide +kernel)) (ma_app inb_X9 ma_nil))
set_option maxHeartbeats 4000000 in
set_option maxRecDepth 100000 in
theorem c_X9_init (l : Launch) (D : va_G) (cI cJ cZ cB : ClassId) (sz : Nat) (h0 : Nat) (v0 : Value) (v1 : Value) (v2 : Value) (v3 : Value) (v4 : Value) (a1 : Nat) : Met l yX9_init u_X9_init ({ frames := 1, cells := 2, slots := 60, locals := 20 }) (va_Pc [.ref h0, .ref a1] (kPre D cI cJ cZ cB [(h0, .inr (8, [v0, v1, v2, v3, v4]))] sz)) (va_Qv (fun (_ : Nat × Nat × (Nat → Int32) × (Nat → Int32)) => True) (kB D (fun (u : Nat × Nat × (Nat → Int32) × (Nat → Int32)) => [(h0, .inr (8, [.ref a1, .ref u.1, .ref u.2.1, v3, v4])), (u.1, .inl (cI, 30, .inl u.2.2.1)), (u.2.1, .inl (cI, 30, .inl u.2.2.2))]) (va_A [(h0, .inr (8, [v0, v1, v2, v3, v4]))] sz)) (va_A [(h0, .inr (8, [v0, v1, v2, v3, v4]))] sz)) 2 60 (va_A [(h0, .inr (8, [v0, v1, v2, v3, v4]))] sz) := by
  refine Met.ofW (cc := cX9_init) (maxL := 2) (ret := none) (by decide) rfl ?_
  intro p e s m args below meth c s₁ B hml hv
  obtain ⟨rfl, hsz, hP, hK, hN, hD0⟩ := hv
  have hx := B.exec
  have hb := B.bytes
  have hr := B.returns
  have hts := atoms_spec (ws := u_X9_init) B.pre
  have hown : s.vm.findClass RX9 = some m.cls := findClass_of_methodNamed B.named
  have hlocks := B.notSynchronized
  have hin : meth.name = "<init>" := (name_of_methodNamed B.named B.method).1
  subst hsz
  have hD := hD0.self (sz := s.heap.size)
  generalize hAe : va_A [(h0, .inr (8, [v0, v1, v2, v3, v4]))] s.heap.size = A at hD ⊢
  have hA : ∀ q : Nat, s.heap.size ≤ q → A q := fun q h => by rw [← hAe]; exact Or.inr h
  have hS : va_S A s.heap s.heap [] := va_S.rf
  have hP : va_P D vwCl [(h0, .inr (8, [v0, v1, v2, v3, v4]))] s.heap := hP
  have hl := lv_entry ([.ref h0, .ref a1]) (n := 2) (Nat.le_of_ble_eq_true rfl)
  rw [lg_entry_eq]
  generalize (lg_sl ([.ref h0, .ref a1]) ++ List.replicate (2 - (lg_sl ([.ref h0, .ref a1])).length) Slot.unset).toArray = ls at hl ⊢
  have hl : lv_has ls 2 [(0, .ref h0), (1, .ref a1)] := hl
  obtain ⟨H, hHe⟩ : ∃ H, s.heap = H := ⟨_, rfl⟩
  have hP : va_P D vwCl [(h0, .inr (8, [v0, v1, v2, v3, v4]))] H := by rw [← hHe]; exact hP
  have hS : va_S A s.heap H [] := by rw [← hHe]; exact hS
  refine kn_heap hHe ?_
  refine lv_aload_n hx hb dX9_init_0 rfl (lv_at hl 0 rfl) ?_
  refine W.objInit hx hb hown (hts (.methodLink RX9 3 objectInit) (by decide +kernel)) (hts (.instanceMethod objectInit) (by decide +kernel)) (hts (.code objectInit ⟨#[0xb1]⟩ 1 none) (by decide +kernel)) rfl (by rw [hml]; exact hl.1) rfl dX9_init_1 (Nat.le_of_ble_eq_true rfl) (Nat.le_of_ble_eq_true rfl) ?_
  refine W.eq (g2 := F0 m 4 ls []) rfl ?_
  refine lv_aload_n hx hb dX9_init_4 rfl (lv_at hl 0 rfl) ?_
  refine lv_bipush (v := 30) hx hb dX9_init_5 (by decide) ?_
  refine kn_newi (ty := .int) (N' := 30) hx hb (hts (.arrayClass .int) (by decide +kernel)) rfl hK hP hD hS hA 0 rfl (fun _ => rfl) (fun _ => rfl) (by decide) (by decide) (by decide) (Nat.le_of_ble_eq_true rfl) (Nat.le_of_ble_eq_true rfl) dX9_init_7 (fun q_49 f_50 H hP hD hS => ?_)
  have hP : va_P D vwCl [(h0, .inr (8, [v0, v1, v2, v3, v4])), (q_49, .inl (cI, 30, .inl f_50))] H := hP
  have hD : va_D A [(h0, .inr (8, [v0, v1, v2, v3, v4])), (q_49, .inl (cI, 30, .inl f_50))] := hD
  refine W.widen (k := 1) (n := 30) (Nat.le_of_ble_eq_true rfl) (Nat.le_of_ble_eq_true rfl) ?_
  refine va_putF (D := D) (ci := 8) (v := .ref q_49) (ty := .array .int) (C := RX9) (T := TX9) (N := 5) hx hb hts inw_X9_init_X9 tyX9 tyX9_ok nmX9 hown hK hP hD hS 0 rfl rfl 1 (by decide) (hts (.fieldLink RX9 9 "EarTable$View" "order" "[I") (by decide +kernel)) (fun _ h9 => h9) rfl hin rfl (by decide +kernel) rfl rfl (Nat.le_of_ble_eq_true rfl) dX9_init_9 (fun H locs hP hD hS => ?_)
  have hP : va_P D vwCl [(h0, .inr (8, [v0, .ref q_49, v2, v3, v4])), (q_49, .inl (cI, 30, .inl f_50))] H := hP
  have hD : va_D A [(h0, .inr (8, [v0, .ref q_49, v2, v3, v4])), (q_49, .inl (cI, 30, .inl f_50))] := hD
  refine lv_aload_n hx hb dX9_init_12 rfl (lv_at hl 0 rfl) ?_
  refine lv_bipush (v := 30) hx hb dX9_init_13 (by decide) ?_
  refine kn_newi (ty := .int) (N' := 30) hx hb (hts (.arrayClass .int) (by decide +kernel)) rfl hK hP hD hS hA 0 rfl (fun _ => rfl) (fun _ => rfl) (by decide) (by decide) (by decide) (Nat.le_of_ble_eq_true rfl) (Nat.le_of_ble_eq_true rfl) dX9_init_15 (fun q_51 f_52 H hP hD hS => ?_)
  have hP : va_P D vwCl [(h0, .inr (8, [v0, .ref q_49, v2, v3, v4])), (q_49, .inl (cI, 30, .inl f_50)), (q_51, .inl (cI, 30, .inl f_52))] H := hP
  have hD : va_D A [(h0, .inr (8, [v0, .ref q_49, v2, v3, v4])), (q_49, .inl (cI, 30, .inl f_50)), (q_51, .inl (cI, 30, .inl f_52))] := hD
  refine W.widen (k := 2) (n := 60) (Nat.le_of_ble_eq_true rfl) (Nat.le_of_ble_eq_true rfl) ?_
  refine va_putF (D := D) (ci := 8) (v := .ref q_51) (ty := .array .int) (C := RX9) (T := TX9) (N := 5) hx hb hts inw_X9_init_X9 tyX9 tyX9_ok nmX9 hown hK hP hD hS 0 rfl rfl 2 (by decide) (hts (.fieldLink RX9 15 "EarTable$View" "orderBefore" "[I") (by decide +kernel)) (fun _ h9 => h9) rfl hin rfl (by decide +kernel) rfl rfl (Nat.le_of_ble_eq_true rfl) dX9_init_17 (fun H locs hP hD hS => ?_)
  have hP : va_P D vwCl [(h0, .inr (8, [v0, .ref q_49, .ref q_51, v3, v4])), (q_49, .inl (cI, 30, .inl f_50)), (q_51, .inl (cI, 30, .inl f_52))] H := hP
  have hD : va_D A [(h0, .inr (8, [v0, .ref q_49, .ref q_51, v3, v4])), (q_49, .inl (cI, 30, .inl f_50)), (q_51, .inl (cI, 30, .inl f_52))] := hD
  refine lv_aload_n hx hb dX9_init_20 rfl (lv_at hl 0 rfl) ?_
  refine lv_aload_n hx hb dX9_init_21 rfl (lv_at hl 1 rfl) ?_
  refine va_putF (D := D) (ci := 8) (v := .ref a1) (ty := .object "EarTable$Grid") (C := RX9) (T := TX9) (N := 5) hx hb hts inw_X9_init_X9 tyX9 tyX9_ok nmX9 hown hK hP hD hS 0 rfl rfl 0 (by decide) (hts (.fieldLink RX9 18 "EarTable$View" "grid" "LEarTable$Grid;") (by decide +kernel)) (fun _ h9 => h9) rfl hin rfl (by decide +kernel) rfl rfl (Nat.le_of_ble_eq_true rfl) dX9_init_22 (fun H locs hP hD hS => ?_)
  have hP : va_P D vwCl [(h0, .inr (8, [.ref a1, .ref q_49, .ref q_51, v3, v4])), (q_49, .inl (cI, 30, .inl f_50)), (q_51, .inl (cI, 30, .inl f_52))] H := hP
  have hD : va_D A [(h0, .inr (8, [.ref a1, .ref q_49, .ref q_51, v3, v4])), (q_49, .inl (cI, 30, .inl f_50)), (q_51, .inl (cI, 30, .inl f_52))] := hD
  have hP9 := hP.sub (ws' := [(h0, .inr (8, [.ref a1, .ref q_49, .ref q_51, v3, v4])), (q_49, .inl (cI, 30, .inl f_50)), (q_51, .inl (cI, 30, .inl f_52))]) [0, 1, 2] rfl
  have hD9 := hD.sub (ws' := [(h0, .inr (8, [.ref a1, .ref q_49, .ref q_51, v3, v4])), (q_49, .inl (cI, 30, .inl f_50)), (q_51, .inl (cI, 30, .inl f_52))]) [0, 1, 2] (by decide) rfl
  exact W.vret hx hb hr (fun t ht hW => ⟨⟨(q_49, q_51, f_50, f_52), rfl, trivial, by rw [ht]; exact hP9, hD9⟩, hS.F ht⟩) hS.2.2 dX9_init_25
def o_X5_init : List Cond := [.methodLink RX5 3 objectInit, .instanceMethod objectInit, .code objectInit ⟨#[0xb1]⟩ 1 none, .fieldLink RX5 9 "EarTable$Steps" "grid" "LEarTable$Grid;", .fieldLink RX5 15 "EarTable$Steps" "view" "LEarTable$View;"]
def u_X5_init : List Cond := .code yX5_init cX5_init 3 none :: (o_X5_init ++ (wsX50 ++ ([] : List Cond)))
theorem inw_X5_init_X5 : ∀ w ∈ wsX50, w ∈ u_X5_init := fun w h => List.mem_cons_of_mem _ (List.mem_append_right _ (List.mem_append_left _ h))
set_option maxRecDepth 20000 in
theorem good_X5_init : u_X5_init.all goodWord = true := by decide +kernel
set_option maxRecDepth 20000 in
theorem in_X5_init : ∀ w ∈ u_X5_init, w ∈ lw_tbl := ma_cons inc_X5_init (ma_app (ma_pos o_X5_init [237, 86, 87, 238, 239] (by decide +kernel)) (ma_app inb_X5 ma_nil))
set_option maxHeartbeats 4000000 in
set_option maxRecDepth 100000 in
theorem c_X5_init (l : Launch) (D : va_G) (cI cJ cZ cB : ClassId) (sz : Nat) (h0 : Nat) (v0 : Value) (v1 : Value) (a1 : Nat) (a2 : Nat) : Met l yX5_init u_X5_init ({ frames := 1, cells := 0, slots := 0, locals := 20 }) (va_Pc [.ref h0, .ref a1, .ref a2] (kPre D cI cJ cZ cB [(h0, .inr (4, [v0, v1]))] sz)) (va_Qv (fun (_ : Unit) => True) (kB D (fun (u : Unit) => [(h0, .inr (4, [.ref a1, .ref a2]))]) (va_A [(h0, .inr (4, [v0, v1]))] sz)) (va_A [(h0, .inr (4, [v0, v1]))] sz)) 0 0 (va_A [(h0, .inr (4, [v0, v1]))] sz) := by
  refine Met.ofW (cc := cX5_init) (maxL := 3) (ret := none) (by decide) rfl ?_
  intro p e s m args below meth c s₁ B hml hv
  obtain ⟨rfl, hsz, hP, hK, hN, hD0⟩ := hv
  have hx := B.exec
  have hb := B.bytes
  have hr := B.returns
  have hts := atoms_spec (ws := u_X5_init) B.pre
  have hown : s.vm.findClass RX5 = some m.cls := findClass_of_methodNamed B.named
  have hlocks := B.notSynchronized
  have hin : meth.name = "<init>" := (name_of_methodNamed B.named B.method).1
  subst hsz
  have hD := hD0.self (sz := s.heap.size)
  generalize hAe : va_A [(h0, .inr (4, [v0, v1]))] s.heap.size = A at hD ⊢
  have hA : ∀ q : Nat, s.heap.size ≤ q → A q := fun q h => by rw [← hAe]; exact Or.inr h
  have hS : va_S A s.heap s.heap [] := va_S.rf
  have hP : va_P D vwCl [(h0, .inr (4, [v0, v1]))] s.heap := hP
  have hl := lv_entry ([.ref h0, .ref a1, .ref a2]) (n := 3) (Nat.le_of_ble_eq_true rfl)
  rw [lg_entry_eq]
  generalize (lg_sl ([.ref h0, .ref a1, .ref a2]) ++ List.replicate (3 - (lg_sl ([.ref h0, .ref a1, .ref a2])).length) Slot.unset).toArray = ls at hl ⊢
  have hl : lv_has ls 3 [(0, .ref h0), (1, .ref a1), (2, .ref a2)] := hl
  obtain ⟨H, hHe⟩ : ∃ H, s.heap = H := ⟨_, rfl⟩
  have hP : va_P D vwCl [(h0, .inr (4, [v0, v1]))] H := by rw [← hHe]; exact hP
  have hS : va_S A s.heap H [] := by rw [← hHe]; exact hS
  refine kn_heap hHe ?_
  refine lv_aload_n hx hb dX5_init_0 rfl (lv_at hl 0 rfl) ?_
  refine W.objInit hx hb hown (hts (.methodLink RX5 3 objectInit) (by decide +kernel)) (hts (.instanceMethod objectInit) (by decide +kernel)) (hts (.code objectInit ⟨#[0xb1]⟩ 1 none) (by decide +kernel)) rfl (by rw [hml]; exact hl.1) rfl dX5_init_1 (Nat.le_of_ble_eq_true rfl) (Nat.le_of_ble_eq_true rfl) ?_
  refine W.eq (g2 := F0 m 4 ls []) rfl ?_
  refine lv_aload_n hx hb dX5_init_4 rfl (lv_at hl 0 rfl) ?_
  refine lv_aload_n hx hb dX5_init_5 rfl (lv_at hl 1 rfl) ?_
  refine va_putF (D := D) (ci := 4) (v := .ref a1) (ty := .object "EarTable$Grid") (C := RX5) (T := TX5) (N := 2) hx hb hts inw_X5_init_X5 tyX5 tyX5_ok nmX5 hown hK hP hD hS 0 rfl rfl 0 (by decide) (hts (.fieldLink RX5 9 "EarTable$Steps" "grid" "LEarTable$Grid;") (by decide +kernel)) (fun _ h9 => h9) rfl hin rfl (by decide +kernel) rfl rfl (Nat.le_of_ble_eq_true rfl) dX5_init_6 (fun H locs hP hD hS => ?_)
  have hP : va_P D vwCl [(h0, .inr (4, [.ref a1, v1]))] H := hP
  have hD : va_D A [(h0, .inr (4, [.ref a1, v1]))] := hD
  refine lv_aload_n hx hb dX5_init_9 rfl (lv_at hl 0 rfl) ?_
  refine lv_aload_n hx hb dX5_init_10 rfl (lv_at hl 2 rfl) ?_
  refine va_putF (D := D) (ci := 4) (v := .ref a2) (ty := .object "EarTable$View") (C := RX5) (T := TX5) (N := 2) hx hb hts inw_X5_init_X5 tyX5 tyX5_ok nmX5 hown hK hP hD hS 0 rfl rfl 1 (by decide) (hts (.fieldLink RX5 15 "EarTable$Steps" "view" "LEarTable$View;") (by decide +kernel)) (fun _ h9 => h9) rfl hin rfl (by decide +kernel) rfl rfl (Nat.le_of_ble_eq_true rfl) dX5_init_11 (fun H locs hP hD hS => ?_)
  have hP : va_P D vwCl [(h0, .inr (4, [.ref a1, .ref a2]))] H := hP
  have hD : va_D A [(h0, .inr (4, [.ref a1, .ref a2]))] := hD
  have hP9 := hP.sub (ws' := [(h0, .inr (4, [.ref a1, .ref a2]))]) [0] rfl
  have hD9 := hD.sub (ws' := [(h0, .inr (4, [.ref a1, .ref a2]))]) [0] (by decide) rfl
  exact W.vret hx hb hr (fun t ht hW => ⟨⟨(), rfl, trivial, by rw [ht]; exact hP9, hD9⟩, hS.F ht⟩) hS.2.2 dX5_init_14
