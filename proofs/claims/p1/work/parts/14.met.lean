def o_X11_feed : List Cond := [.fieldLink RX11 10 "EarTable" "tape" "LEarTable$Tape;", .methodLink RX11 94 yX7_append, .instanceMethod yX7_append, .selects RX7 yX7_append yX7_append, .initialized RX7]
def u_X11_feed : List Cond := .code yX11_feed cX11_feed 6 (some .int) :: (o_X11_feed ++ (u_X7_append ++ (u_X7_append_k1 ++ (u_X7_append_k2 ++ (u_X7_append_k3 ++ (u_X7_append_k4 ++ (wsX110 ++ (wsX70 ++ ([] : List Cond)))))))))
theorem gs_X11_feed__X7_append : GoodIn u_X11_feed u_X7_append := goodIn_sub (fun w h => List.mem_cons_of_mem _ (List.mem_append_right _ (List.mem_append_left _ h))) good_X7_append
theorem gs_X11_feed__X7_append_k1 : GoodIn u_X11_feed u_X7_append_k1 := goodIn_sub (fun w h => List.mem_cons_of_mem _ (List.mem_append_right _ (List.mem_append_right _ (List.mem_append_left _ h)))) good_X7_append_k1
theorem gs_X11_feed__X7_append_k2 : GoodIn u_X11_feed u_X7_append_k2 := goodIn_sub (fun w h => List.mem_cons_of_mem _ (List.mem_append_right _ (List.mem_append_right _ (List.mem_append_right _ (List.mem_append_left _ h))))) good_X7_append_k2
theorem gs_X11_feed__X7_append_k3 : GoodIn u_X11_feed u_X7_append_k3 := goodIn_sub (fun w h => List.mem_cons_of_mem _ (List.mem_append_right _ (List.mem_append_right _ (List.mem_append_right _ (List.mem_append_right _ (List.mem_append_left _ h)))))) good_X7_append_k3
theorem gs_X11_feed__X7_append_k4 : GoodIn u_X11_feed u_X7_append_k4 := goodIn_sub (fun w h => List.mem_cons_of_mem _ (List.mem_append_right _ (List.mem_append_right _ (List.mem_append_right _ (List.mem_append_right _ (List.mem_append_right _ (List.mem_append_left _ h))))))) good_X7_append_k4
theorem inw_X11_feed_X11 : ∀ w ∈ wsX110, w ∈ u_X11_feed := fun w h => List.mem_cons_of_mem _ (List.mem_append_right _ (List.mem_append_right _ (List.mem_append_right _ (List.mem_append_right _ (List.mem_append_right _ (List.mem_append_right _ (List.mem_append_left _ h)))))))
theorem inw_X11_feed_X7 : ∀ w ∈ wsX70, w ∈ u_X11_feed := fun w h => List.mem_cons_of_mem _ (List.mem_append_right _ (List.mem_append_right _ (List.mem_append_right _ (List.mem_append_right _ (List.mem_append_right _ (List.mem_append_right _ (List.mem_append_right _ (List.mem_append_left _ h))))))))
set_option maxRecDepth 20000 in
theorem good_X11_feed : u_X11_feed.all goodWord = true := by decide +kernel
set_option maxRecDepth 20000 in
theorem in_X11_feed : ∀ w ∈ u_X11_feed, w ∈ lw_tbl := ma_cons inc_X11_feed (ma_app (ma_pos o_X11_feed [384, 428, 429, 430, 65] (by decide +kernel)) (ma_app in_X7_append (ma_app in_X7_append_k1 (ma_app in_X7_append_k2 (ma_app in_X7_append_k3 (ma_app in_X7_append_k4 (ma_app inb_X11 (ma_app inb_X7 ma_nil))))))))
set_option maxHeartbeats 4000000 in
set_option maxRecDepth 100000 in
theorem c_X11_feed (l : Launch) (D : va_G) (cI cJ cZ cB : ClassId) (sz : Nat) (h0 : Nat) (h1 : Nat) (h2 : Nat) (v0 : Value) (v1 : Value) (v2 : Value) (v3 : Value) (v4 : Value) (v5 : Value) (v6 : Value) (v7 : Value) (v8 : Value) (v9 : Value) (v10 : Value) (v11 : Value) (f12 : Nat → Int32) (p1 : Int32) (p2 : Int32) (p3 : Int32) (p4 : Int32) (p5 : Int32) : Met l yX11_feed u_X11_feed ({ frames := 1, cells := 0, slots := 0, locals := 22 }) (va_Pc [.ref h0, .int p1, .int p2, .int p3, .int p4, .int p5] (kPre D cI cJ cZ cB [(h0, .inr (10, [.ref h1, v0, v1, v2, v3, v4, v5, v6, v7, v8, v9, v10, v11])), (h1, .inr (6, [.ref h2, .int 0])), (h2, .inl (cI, 1600, .inl f12))] sz)) (va_Qi (fun (r : Int32) (_ : (Nat → Int32)) => r = 20) (kB D (fun (u : (Nat → Int32)) => [(h0, .inr (10, [.ref h1, v0, v1, v2, v3, v4, v5, v6, v7, v8, v9, v10, v11])), (h1, .inr (6, [.ref h2, .int 20])), (h2, .inl (cI, 1600, .inl u))]) (va_A [(h0, .inr (10, [.ref h1, v0, v1, v2, v3, v4, v5, v6, v7, v8, v9, v10, v11])), (h1, .inr (6, [.ref h2, .int 0])), (h2, .inl (cI, 1600, .inl f12))] sz)) (va_A [(h0, .inr (10, [.ref h1, v0, v1, v2, v3, v4, v5, v6, v7, v8, v9, v10, v11])), (h1, .inr (6, [.ref h2, .int 0])), (h2, .inl (cI, 1600, .inl f12))] sz)) 0 0 (va_A [(h0, .inr (10, [.ref h1, v0, v1, v2, v3, v4, v5, v6, v7, v8, v9, v10, v11])), (h1, .inr (6, [.ref h2, .int 0])), (h2, .inl (cI, 1600, .inl f12))] sz) := by
  refine Met.ofW (cc := cX11_feed) (maxL := 6) (ret := (some .int)) (by decide) rfl ?_
  intro p e s m args below meth c s₁ B hml hv
  obtain ⟨rfl, hsz, hP, hK, hN, hD0⟩ := hv
  have hx := B.exec
  have hb := B.bytes
  have hr := B.returns
  have hts := atoms_spec (ws := u_X11_feed) B.pre
  have hown : s.vm.findClass RX11 = some m.cls := findClass_of_methodNamed B.named
  have hlocks := B.notSynchronized
  subst hsz
  have hD := hD0.self (sz := s.heap.size)
  generalize hAe : va_A [(h0, .inr (10, [.ref h1, v0, v1, v2, v3, v4, v5, v6, v7, v8, v9, v10, v11])), (h1, .inr (6, [.ref h2, .int 0])), (h2, .inl (cI, 1600, .inl f12))] s.heap.size = A at hD ⊢
  have hA : ∀ q : Nat, s.heap.size ≤ q → A q := fun q h => by rw [← hAe]; exact Or.inr h
  have hS : va_S A s.heap s.heap [] := va_S.rf
  have hP : va_P D vwCl [(h0, .inr (10, [.ref h1, v0, v1, v2, v3, v4, v5, v6, v7, v8, v9, v10, v11])), (h1, .inr (6, [.ref h2, .int 0])), (h2, .inl (cI, 1600, .inl f12))] s.heap := hP
  have hl := lv_entry ([.ref h0, .int p1, .int p2, .int p3, .int p4, .int p5]) (n := 6) (Nat.le_of_ble_eq_true rfl)
  rw [lg_entry_eq]
  generalize (lg_sl ([.ref h0, .int p1, .int p2, .int p3, .int p4, .int p5]) ++ List.replicate (6 - (lg_sl ([.ref h0, .int p1, .int p2, .int p3, .int p4, .int p5])).length) Slot.unset).toArray = ls at hl ⊢
  have hl : lv_has ls 6 [(0, .ref h0), (1, .int p1), (2, .int p2), (3, .int p3), (4, .int p4), (5, .int p5)] := hl
  obtain ⟨H, hHe⟩ : ∃ H, s.heap = H := ⟨_, rfl⟩
  have hP : va_P D vwCl [(h0, .inr (10, [.ref h1, v0, v1, v2, v3, v4, v5, v6, v7, v8, v9, v10, v11])), (h1, .inr (6, [.ref h2, .int 0])), (h2, .inl (cI, 1600, .inl f12))] H := by rw [← hHe]; exact hP
  have hS : va_S A s.heap H [] := by rw [← hHe]; exact hS
  refine kn_heap hHe ?_
  refine lv_aload_n hx hb dX11_feed_0 rfl (lv_at hl 0 rfl) ?_
  refine va_get (D := D) (ci := 10) (v := .ref h1) (C := RX11) (T := TX11) (N := 13) hx hb hts inw_X11_feed_X11 hown hK hP 0 rfl rfl 0 (by decide) (hts (.fieldLink RX11 10 "EarTable" "tape" "LEarTable$Tape;") (by decide +kernel)) (fun _ h9 => h9) rfl dX11_feed_1 ?_
  refine va_getN (D := D) (ci := 6) (v := .int 0) (C := RX7) (T := TX7) (N := 2) hx hb hts inw_X11_feed_X7 hown hK hP 1 rfl rfl 1 (by decide) (va_Nw.use rfl (hN.1 (RX11, 90, "EarTable$Tape", "length", "I") (by decide +kernel))) (fun _ h9 => h9) rfl dX11_feed_4 ?_
  refine lv_sipush (v := 1580) hx hb dX11_feed_7 (by decide) ?_
  refine lv_icmp_le (tgt := 15) hx hb dX11_feed_10 (by decide) (fun c_257 => ?_) (fun c_257 => ?_)
  · skip
    refine lv_aload_n hx hb dX11_feed_15 rfl (lv_at hl 0 rfl) ?_
    refine va_get (D := D) (ci := 10) (v := .ref h1) (C := RX11) (T := TX11) (N := 13) hx hb hts inw_X11_feed_X11 hown hK hP 0 rfl rfl 0 (by decide) (hts (.fieldLink RX11 10 "EarTable" "tape" "LEarTable$Tape;") (by decide +kernel)) (fun _ h9 => h9) rfl dX11_feed_16 ?_
    refine lv_iload_n hx hb dX11_feed_19 rfl (lv_at hl 1 rfl) ?_
    have hPc := hP.sub (ws' := [(h1, .inr (6, [.ref h2, .int 0])), (h2, .inl (cI, 1600, .inl f12))]) [1, 2] rfl
    have hDc := hD.sub (ws' := [(h1, .inr (6, [.ref h2, .int 0])), (h2, .inl (cI, 1600, .inl f12))]) [1, 2] (by decide) rfl
    refine kn_callv (wr := [(h0, .inr (10, [.ref h1, v0, v1, v2, v3, v4, v5, v6, v7, v8, v9, v10, v11]))]) (cells' := 0) (slots' := 0) (va_runV (As := [.int p1]) (rest := []) ⟨hx, hb, hml, hown, hts⟩ (c_X7_append l D cI cJ cZ cB H.size h1 h2 f12 p1) (cwV 1 hts (goodIn_app (goodIn_of _ (by decide +kernel)) gs_X11_feed__X7_append) rfl rfl rfl (by decide +kernel) ⟨(Nat.le_of_ble_eq_true rfl), (Nat.le_of_ble_eq_true rfl)⟩) (kp_V 0 6 rfl rfl hPc hK hN hDc) rfl rfl hl.1 rfl (lv_room (Nat.le_of_ble_eq_true rfl)) dX11_feed_20 ⟨(Nat.le_of_ble_eq_true rfl), (Nat.le_of_ble_eq_true rfl)⟩) hS hA hP hD [1, 2] [0] rfl rfl (by decide) (by decide) (Nat.le_of_ble_eq_true rfl) (Nat.le_of_ble_eq_true rfl) (fun u H locs hw_258 hP hD hS => ?_)
    obtain ⟨f_259, rfl⟩ : ∃ z, z = u := ⟨_, rfl⟩
    have hP : va_P D vwCl [(h0, .inr (10, [.ref h1, v0, v1, v2, v3, v4, v5, v6, v7, v8, v9, v10, v11])), (h1, .inr (6, [.ref h2, .int 4])), (h2, .inl (cI, 1600, .inl f_259))] H := hP
    have hD : va_D A [(h0, .inr (10, [.ref h1, v0, v1, v2, v3, v4, v5, v6, v7, v8, v9, v10, v11])), (h1, .inr (6, [.ref h2, .int 4])), (h2, .inl (cI, 1600, .inl f_259))] := hD
    refine lv_aload_n hx hb dX11_feed_23 rfl (lv_at hl 0 rfl) ?_
    refine va_get (D := D) (ci := 10) (v := .ref h1) (C := RX11) (T := TX11) (N := 13) hx hb hts inw_X11_feed_X11 hown hK hP 0 rfl rfl 0 (by decide) (hts (.fieldLink RX11 10 "EarTable" "tape" "LEarTable$Tape;") (by decide +kernel)) (fun _ h9 => h9) rfl dX11_feed_24 ?_
    refine lv_iload_n hx hb dX11_feed_27 rfl (lv_at hl 2 rfl) ?_
    have hPc := hP.sub (ws' := [(h1, .inr (6, [.ref h2, .int 4])), (h2, .inl (cI, 1600, .inl f_259))]) [1, 2] rfl
    have hDc := hD.sub (ws' := [(h1, .inr (6, [.ref h2, .int 4])), (h2, .inl (cI, 1600, .inl f_259))]) [1, 2] (by decide) rfl
    refine kn_callv (wr := [(h0, .inr (10, [.ref h1, v0, v1, v2, v3, v4, v5, v6, v7, v8, v9, v10, v11]))]) (cells' := 0) (slots' := 0) (va_runV (As := [.int p2]) (rest := []) ⟨hx, hb, hml, hown, hts⟩ (c_X7_append_k1 l D cI cJ cZ cB H.size h1 h2 f_259 p2) (cwV 1 hts (goodIn_app (goodIn_of _ (by decide +kernel)) gs_X11_feed__X7_append_k1) rfl rfl rfl (by decide +kernel) ⟨(Nat.le_of_ble_eq_true rfl), (Nat.le_of_ble_eq_true rfl)⟩) (kp_V 0 6 rfl rfl hPc hK hN hDc) rfl rfl hl.1 rfl (lv_room (Nat.le_of_ble_eq_true rfl)) dX11_feed_28 ⟨(Nat.le_of_ble_eq_true rfl), (Nat.le_of_ble_eq_true rfl)⟩) hS hA hP hD [1, 2] [0] rfl rfl (by decide) (by decide) (Nat.le_of_ble_eq_true rfl) (Nat.le_of_ble_eq_true rfl) (fun u H locs hw_260 hP hD hS => ?_)
    obtain ⟨f_261, rfl⟩ : ∃ z, z = u := ⟨_, rfl⟩
    have hP : va_P D vwCl [(h0, .inr (10, [.ref h1, v0, v1, v2, v3, v4, v5, v6, v7, v8, v9, v10, v11])), (h1, .inr (6, [.ref h2, .int 8])), (h2, .inl (cI, 1600, .inl f_261))] H := hP
    have hD : va_D A [(h0, .inr (10, [.ref h1, v0, v1, v2, v3, v4, v5, v6, v7, v8, v9, v10, v11])), (h1, .inr (6, [.ref h2, .int 8])), (h2, .inl (cI, 1600, .inl f_261))] := hD
    refine lv_aload_n hx hb dX11_feed_31 rfl (lv_at hl 0 rfl) ?_
    refine va_get (D := D) (ci := 10) (v := .ref h1) (C := RX11) (T := TX11) (N := 13) hx hb hts inw_X11_feed_X11 hown hK hP 0 rfl rfl 0 (by decide) (hts (.fieldLink RX11 10 "EarTable" "tape" "LEarTable$Tape;") (by decide +kernel)) (fun _ h9 => h9) rfl dX11_feed_32 ?_
    refine lv_iload_n hx hb dX11_feed_35 rfl (lv_at hl 3 rfl) ?_
    have hPc := hP.sub (ws' := [(h1, .inr (6, [.ref h2, .int 8])), (h2, .inl (cI, 1600, .inl f_261))]) [1, 2] rfl
    have hDc := hD.sub (ws' := [(h1, .inr (6, [.ref h2, .int 8])), (h2, .inl (cI, 1600, .inl f_261))]) [1, 2] (by decide) rfl
    refine kn_callv (wr := [(h0, .inr (10, [.ref h1, v0, v1, v2, v3, v4, v5, v6, v7, v8, v9, v10, v11]))]) (cells' := 0) (slots' := 0) (va_runV (As := [.int p3]) (rest := []) ⟨hx, hb, hml, hown, hts⟩ (c_X7_append_k2 l D cI cJ cZ cB H.size h1 h2 f_261 p3) (cwV 1 hts (goodIn_app (goodIn_of _ (by decide +kernel)) gs_X11_feed__X7_append_k2) rfl rfl rfl (by decide +kernel) ⟨(Nat.le_of_ble_eq_true rfl), (Nat.le_of_ble_eq_true rfl)⟩) (kp_V 0 6 rfl rfl hPc hK hN hDc) rfl rfl hl.1 rfl (lv_room (Nat.le_of_ble_eq_true rfl)) dX11_feed_36 ⟨(Nat.le_of_ble_eq_true rfl), (Nat.le_of_ble_eq_true rfl)⟩) hS hA hP hD [1, 2] [0] rfl rfl (by decide) (by decide) (Nat.le_of_ble_eq_true rfl) (Nat.le_of_ble_eq_true rfl) (fun u H locs hw_262 hP hD hS => ?_)
    obtain ⟨f_263, rfl⟩ : ∃ z, z = u := ⟨_, rfl⟩
    have hP : va_P D vwCl [(h0, .inr (10, [.ref h1, v0, v1, v2, v3, v4, v5, v6, v7, v8, v9, v10, v11])), (h1, .inr (6, [.ref h2, .int 12])), (h2, .inl (cI, 1600, .inl f_263))] H := hP
    have hD : va_D A [(h0, .inr (10, [.ref h1, v0, v1, v2, v3, v4, v5, v6, v7, v8, v9, v10, v11])), (h1, .inr (6, [.ref h2, .int 12])), (h2, .inl (cI, 1600, .inl f_263))] := hD
    refine lv_aload_n hx hb dX11_feed_39 rfl (lv_at hl 0 rfl) ?_
    refine va_get (D := D) (ci := 10) (v := .ref h1) (C := RX11) (T := TX11) (N := 13) hx hb hts inw_X11_feed_X11 hown hK hP 0 rfl rfl 0 (by decide) (hts (.fieldLink RX11 10 "EarTable" "tape" "LEarTable$Tape;") (by decide +kernel)) (fun _ h9 => h9) rfl dX11_feed_40 ?_
    refine lv_iload hx hb dX11_feed_43 (lv_at hl 4 rfl) ?_
    have hPc := hP.sub (ws' := [(h1, .inr (6, [.ref h2, .int 12])), (h2, .inl (cI, 1600, .inl f_263))]) [1, 2] rfl
    have hDc := hD.sub (ws' := [(h1, .inr (6, [.ref h2, .int 12])), (h2, .inl (cI, 1600, .inl f_263))]) [1, 2] (by decide) rfl
    refine kn_callv (wr := [(h0, .inr (10, [.ref h1, v0, v1, v2, v3, v4, v5, v6, v7, v8, v9, v10, v11]))]) (cells' := 0) (slots' := 0) (va_runV (As := [.int p4]) (rest := []) ⟨hx, hb, hml, hown, hts⟩ (c_X7_append_k3 l D cI cJ cZ cB H.size h1 h2 f_263 p4) (cwV 1 hts (goodIn_app (goodIn_of _ (by decide +kernel)) gs_X11_feed__X7_append_k3) rfl rfl rfl (by decide +kernel) ⟨(Nat.le_of_ble_eq_true rfl), (Nat.le_of_ble_eq_true rfl)⟩) (kp_V 0 6 rfl rfl hPc hK hN hDc) rfl rfl hl.1 rfl (lv_room (Nat.le_of_ble_eq_true rfl)) dX11_feed_45 ⟨(Nat.le_of_ble_eq_true rfl), (Nat.le_of_ble_eq_true rfl)⟩) hS hA hP hD [1, 2] [0] rfl rfl (by decide) (by decide) (Nat.le_of_ble_eq_true rfl) (Nat.le_of_ble_eq_true rfl) (fun u H locs hw_264 hP hD hS => ?_)
    obtain ⟨f_265, rfl⟩ : ∃ z, z = u := ⟨_, rfl⟩
    have hP : va_P D vwCl [(h0, .inr (10, [.ref h1, v0, v1, v2, v3, v4, v5, v6, v7, v8, v9, v10, v11])), (h1, .inr (6, [.ref h2, .int 16])), (h2, .inl (cI, 1600, .inl f_265))] H := hP
    have hD : va_D A [(h0, .inr (10, [.ref h1, v0, v1, v2, v3, v4, v5, v6, v7, v8, v9, v10, v11])), (h1, .inr (6, [.ref h2, .int 16])), (h2, .inl (cI, 1600, .inl f_265))] := hD
    refine lv_aload_n hx hb dX11_feed_48 rfl (lv_at hl 0 rfl) ?_
    refine va_get (D := D) (ci := 10) (v := .ref h1) (C := RX11) (T := TX11) (N := 13) hx hb hts inw_X11_feed_X11 hown hK hP 0 rfl rfl 0 (by decide) (hts (.fieldLink RX11 10 "EarTable" "tape" "LEarTable$Tape;") (by decide +kernel)) (fun _ h9 => h9) rfl dX11_feed_49 ?_
    refine lv_iload hx hb dX11_feed_52 (lv_at hl 5 rfl) ?_
    have hPc := hP.sub (ws' := [(h1, .inr (6, [.ref h2, .int 16])), (h2, .inl (cI, 1600, .inl f_265))]) [1, 2] rfl
    have hDc := hD.sub (ws' := [(h1, .inr (6, [.ref h2, .int 16])), (h2, .inl (cI, 1600, .inl f_265))]) [1, 2] (by decide) rfl
    refine kn_callv (wr := [(h0, .inr (10, [.ref h1, v0, v1, v2, v3, v4, v5, v6, v7, v8, v9, v10, v11]))]) (cells' := 0) (slots' := 0) (va_runV (As := [.int p5]) (rest := []) ⟨hx, hb, hml, hown, hts⟩ (c_X7_append_k4 l D cI cJ cZ cB H.size h1 h2 f_265 p5) (cwV 1 hts (goodIn_app (goodIn_of _ (by decide +kernel)) gs_X11_feed__X7_append_k4) rfl rfl rfl (by decide +kernel) ⟨(Nat.le_of_ble_eq_true rfl), (Nat.le_of_ble_eq_true rfl)⟩) (kp_V 0 6 rfl rfl hPc hK hN hDc) rfl rfl hl.1 rfl (lv_room (Nat.le_of_ble_eq_true rfl)) dX11_feed_54 ⟨(Nat.le_of_ble_eq_true rfl), (Nat.le_of_ble_eq_true rfl)⟩) hS hA hP hD [1, 2] [0] rfl rfl (by decide) (by decide) (Nat.le_of_ble_eq_true rfl) (Nat.le_of_ble_eq_true rfl) (fun u H locs hw_266 hP hD hS => ?_)
    obtain ⟨f_267, rfl⟩ : ∃ z, z = u := ⟨_, rfl⟩
    have hP : va_P D vwCl [(h0, .inr (10, [.ref h1, v0, v1, v2, v3, v4, v5, v6, v7, v8, v9, v10, v11])), (h1, .inr (6, [.ref h2, .int 20])), (h2, .inl (cI, 1600, .inl f_267))] H := hP
    have hD : va_D A [(h0, .inr (10, [.ref h1, v0, v1, v2, v3, v4, v5, v6, v7, v8, v9, v10, v11])), (h1, .inr (6, [.ref h2, .int 20])), (h2, .inl (cI, 1600, .inl f_267))] := hD
    refine lv_aload_n hx hb dX11_feed_57 rfl (lv_at hl 0 rfl) ?_
    refine va_get (D := D) (ci := 10) (v := .ref h1) (C := RX11) (T := TX11) (N := 13) hx hb hts inw_X11_feed_X11 hown hK hP 0 rfl rfl 0 (by decide) (hts (.fieldLink RX11 10 "EarTable" "tape" "LEarTable$Tape;") (by decide +kernel)) (fun _ h9 => h9) rfl dX11_feed_58 ?_
    refine va_getN (D := D) (ci := 6) (v := .int 20) (C := RX7) (T := TX7) (N := 2) hx hb hts inw_X11_feed_X7 hown hK hP 1 rfl rfl 1 (by decide) (va_Nw.use rfl (hN.1 (RX11, 90, "EarTable$Tape", "length", "I") (by decide +kernel))) (fun _ h9 => h9) rfl dX11_feed_61 ?_
    have hP9 := hP.sub (ws' := [(h0, .inr (10, [.ref h1, v0, v1, v2, v3, v4, v5, v6, v7, v8, v9, v10, v11])), (h1, .inr (6, [.ref h2, .int 20])), (h2, .inl (cI, 1600, .inl f_267))]) [0, 1, 2] rfl
    have hD9 := hD.sub (ws' := [(h0, .inr (10, [.ref h1, v0, v1, v2, v3, v4, v5, v6, v7, v8, v9, v10, v11])), (h1, .inr (6, [.ref h2, .int 20])), (h2, .inl (cI, 1600, .inl f_267))]) [0, 1, 2] (by decide) rfl
    exact W.iret (v := 20) hx hb hr (fun t ht hW => ⟨⟨20, f_267, rfl, rfl, by rw [ht]; exact hP9, hD9⟩, hS.F ht⟩) hS.2.2 dX11_feed_64
  · skip
    exact absurd (by decide) c_257
def o_X12_feed : List Cond := [.fieldLink RX12 58 "EarTableModel" "taped" "I", .fieldLink RX12 61 "EarTableModel" "tape" "[B"]
def u_X12_feed : List Cond := .code yX12_feed cX12_feed 8 (some .int) :: (o_X12_feed ++ (wsX120 ++ ([] : List Cond)))
theorem inw_X12_feed_X12 : ∀ w ∈ wsX120, w ∈ u_X12_feed := fun w h => List.mem_cons_of_mem _ (List.mem_append_right _ (List.mem_append_left _ h))
set_option maxRecDepth 20000 in
theorem good_X12_feed : u_X12_feed.all goodWord = true := by decide +kernel
set_option maxRecDepth 20000 in
theorem in_X12_feed : ∀ w ∈ u_X12_feed, w ∈ lw_tbl := ma_cons inc_X12_feed (ma_app (ma_pos o_X12_feed [978, 976] (by decide +kernel)) (ma_app inb_X12 ma_nil))
set_option maxHeartbeats 4000000 in
set_option maxRecDepth 100000 in
theorem c_X12_feed (l : Launch) (D : va_G) (cI cJ cZ cB : ClassId) (sz : Nat) (h0 : Nat) (h1 : Nat) (v0 : Value) (v1 : Value) (v2 : Value) (v3 : Value) (v4 : Value) (v5 : Value) (v6 : Value) (v7 : Value) (v8 : Value) (v9 : Value) (v10 : Value) (v11 : Value) (v12 : Value) (v13 : Value) (v14 : Value) (v15 : Value) (v16 : Value) (v17 : Value) (v18 : Value) (v19 : Value) (v20 : Value) (v21 : Value) (v22 : Value) (v23 : Value) (v24 : Value) (v25 : Value) (v26 : Value) (v27 : Value) (v28 : Value) (v29 : Value) (v30 : Value) (v31 : Value) (v32 : Value) (v33 : Value) (v34 : Value) (v35 : Value) (v36 : Value) (v37 : Value) (v38 : Value) (v39 : Value) (v40 : Value) (v41 : Value) (v42 : Value) (v43 : Value) (v44 : Value) (v45 : Value) (v46 : Value) (v47 : Value) (f48 : Nat → Int32) (p1 : Int32) (p2 : Int32) (p3 : Int32) (p4 : Int32) (p5 : Int32) : Met l yX12_feed u_X12_feed ({ frames := 0, cells := 0, slots := 0, locals := 0 }) (va_Pc [.ref h0, .int p1, .int p2, .int p3, .int p4, .int p5] (kPre D cI cJ cZ cB [(h0, .inr (11, [.ref h1, v0, .int 0, v1, v2, v3, v4, v5, v6, v7, v8, v9, v10, v11, v12, v13, v14, v15, v16, v17, v18, v19, v20, v21, v22, v23, v24, v25, v26, v27, v28, v29, v30, v31, v32, v33, v34, v35, v36, v37, v38, v39, v40, v41, v42, v43, v44, v45, v46, v47])), (h1, .inl (cB, 1620, .inl f48))] sz)) (va_Qi (fun (r : Int32) (_ : (Nat → Int32)) => r = 20) (kB D (fun (u : (Nat → Int32)) => [(h0, .inr (11, [.ref h1, v0, .int 20, v1, v2, v3, v4, v5, v6, v7, v8, v9, v10, v11, v12, v13, v14, v15, v16, v17, v18, v19, v20, v21, v22, v23, v24, v25, v26, v27, v28, v29, v30, v31, v32, v33, v34, v35, v36, v37, v38, v39, v40, v41, v42, v43, v44, v45, v46, v47])), (h1, .inl (cB, 1620, .inl u))]) (va_A [(h0, .inr (11, [.ref h1, v0, .int 0, v1, v2, v3, v4, v5, v6, v7, v8, v9, v10, v11, v12, v13, v14, v15, v16, v17, v18, v19, v20, v21, v22, v23, v24, v25, v26, v27, v28, v29, v30, v31, v32, v33, v34, v35, v36, v37, v38, v39, v40, v41, v42, v43, v44, v45, v46, v47])), (h1, .inl (cB, 1620, .inl f48))] sz)) (va_A [(h0, .inr (11, [.ref h1, v0, .int 0, v1, v2, v3, v4, v5, v6, v7, v8, v9, v10, v11, v12, v13, v14, v15, v16, v17, v18, v19, v20, v21, v22, v23, v24, v25, v26, v27, v28, v29, v30, v31, v32, v33, v34, v35, v36, v37, v38, v39, v40, v41, v42, v43, v44, v45, v46, v47])), (h1, .inl (cB, 1620, .inl f48))] sz)) 0 0 (va_A [(h0, .inr (11, [.ref h1, v0, .int 0, v1, v2, v3, v4, v5, v6, v7, v8, v9, v10, v11, v12, v13, v14, v15, v16, v17, v18, v19, v20, v21, v22, v23, v24, v25, v26, v27, v28, v29, v30, v31, v32, v33, v34, v35, v36, v37, v38, v39, v40, v41, v42, v43, v44, v45, v46, v47])), (h1, .inl (cB, 1620, .inl f48))] sz) := by
  refine Met.ofW (cc := cX12_feed) (maxL := 8) (ret := (some .int)) (by decide) rfl ?_
  intro p e s m args below meth c s₁ B hml hv
  obtain ⟨rfl, hsz, hP, hK, hN, hD0⟩ := hv
  have hx := B.exec
  have hb := B.bytes
  have hr := B.returns
  have hts := atoms_spec (ws := u_X12_feed) B.pre
  have hown : s.vm.findClass RX12 = some m.cls := findClass_of_methodNamed B.named
  have hlocks := B.notSynchronized
  subst hsz
  have hD := hD0.self (sz := s.heap.size)
  generalize hAe : va_A [(h0, .inr (11, [.ref h1, v0, .int 0, v1, v2, v3, v4, v5, v6, v7, v8, v9, v10, v11, v12, v13, v14, v15, v16, v17, v18, v19, v20, v21, v22, v23, v24, v25, v26, v27, v28, v29, v30, v31, v32, v33, v34, v35, v36, v37, v38, v39, v40, v41, v42, v43, v44, v45, v46, v47])), (h1, .inl (cB, 1620, .inl f48))] s.heap.size = A at hD ⊢
  have hA : ∀ q : Nat, s.heap.size ≤ q → A q := fun q h => by rw [← hAe]; exact Or.inr h
  have hS : va_S A s.heap s.heap [] := va_S.rf
  have hP : va_P D vwCl [(h0, .inr (11, [.ref h1, v0, .int 0, v1, v2, v3, v4, v5, v6, v7, v8, v9, v10, v11, v12, v13, v14, v15, v16, v17, v18, v19, v20, v21, v22, v23, v24, v25, v26, v27, v28, v29, v30, v31, v32, v33, v34, v35, v36, v37, v38, v39, v40, v41, v42, v43, v44, v45, v46, v47])), (h1, .inl (cB, 1620, .inl f48))] s.heap := hP
  have hl := lv_entry ([.ref h0, .int p1, .int p2, .int p3, .int p4, .int p5]) (n := 8) (Nat.le_of_ble_eq_true rfl)
  rw [lg_entry_eq]
  generalize (lg_sl ([.ref h0, .int p1, .int p2, .int p3, .int p4, .int p5]) ++ List.replicate (8 - (lg_sl ([.ref h0, .int p1, .int p2, .int p3, .int p4, .int p5])).length) Slot.unset).toArray = ls at hl ⊢
  have hl : lv_has ls 8 [(0, .ref h0), (1, .int p1), (2, .int p2), (3, .int p3), (4, .int p4), (5, .int p5)] := hl
  obtain ⟨H, hHe⟩ : ∃ H, s.heap = H := ⟨_, rfl⟩
  have hP : va_P D vwCl [(h0, .inr (11, [.ref h1, v0, .int 0, v1, v2, v3, v4, v5, v6, v7, v8, v9, v10, v11, v12, v13, v14, v15, v16, v17, v18, v19, v20, v21, v22, v23, v24, v25, v26, v27, v28, v29, v30, v31, v32, v33, v34, v35, v36, v37, v38, v39, v40, v41, v42, v43, v44, v45, v46, v47])), (h1, .inl (cB, 1620, .inl f48))] H := by rw [← hHe]; exact hP
  have hS : va_S A s.heap H [] := by rw [← hHe]; exact hS
  refine kn_heap hHe ?_
  refine lv_aload_n hx hb dX12_feed_0 rfl (lv_at hl 0 rfl) ?_
  refine va_get (D := D) (ci := 11) (v := .int 0) (C := RX12) (T := TX12) (N := 50) hx hb hts inw_X12_feed_X12 hown hK hP 0 rfl rfl 2 (by decide) (hts (.fieldLink RX12 58 "EarTableModel" "taped" "I") (by decide +kernel)) (fun _ h9 => h9) rfl dX12_feed_1 ?_
  refine lv_bipush (v := 20) hx hb dX12_feed_4 (by decide) ?_
  refine lv_iadd hx hb dX12_feed_6 ?_
  refine kn_top (y := 20) (by decide) ?_
  refine lv_sipush (v := 1600) hx hb dX12_feed_7 (by decide) ?_
  refine lv_icmp_le (tgt := 15) hx hb dX12_feed_10 (by decide) (fun c_271 => ?_) (fun c_271 => ?_)
  · skip
    refine lv_iconst (v := 0) hx hb dX12_feed_15 (by decide) ?_
    refine lv_istore (lv' := [(6, .int 0), (0, .ref h0), (1, .int p1), (2, .int p2), (3, .int p3), (4, .int p4), (5, .int p5)]) hx hb dX12_feed_16 hl (by decide) rfl (fun ls hl => ?_)
    refine lv_iload hx hb dX12_feed_18 (lv_at hl 0 rfl) ?_
    refine lv_bipush (v := 20) hx hb dX12_feed_20 (by decide) ?_
    refine lv_icmp_ge (tgt := 105) hx hb dX12_feed_22 (by decide) (fun c_272 => ?_) (fun c_272 => ?_)
    · skip
      exact absurd c_272 (by decide)
    · skip
      refine lv_iload hx hb dX12_feed_25 (lv_at hl 0 rfl) ?_
      refine lv_iconst (v := 4) hx hb dX12_feed_27 (by decide) ?_
      refine lv_icmp_ge (tgt := 35) hx hb dX12_feed_28 (by decide) (fun c_273 => ?_) (fun c_273 => ?_)
      · skip
        exact absurd c_273 (by decide)
      · skip
        refine lv_iload_n hx hb dX12_feed_31 rfl (lv_at hl 2 rfl) ?_
        refine lv_goto (tgt := 71) hx hb dX12_feed_32 (by decide) ?_
        refine lv_istore (lv' := [(7, .int p1), (6, .int 0), (0, .ref h0), (1, .int p1), (2, .int p2), (3, .int p3), (4, .int p4), (5, .int p5)]) hx hb dX12_feed_71 hl (by decide) rfl (fun ls hl => ?_)
        refine lv_aload_n hx hb dX12_feed_73 rfl (lv_at hl 2 rfl) ?_
        refine va_get (D := D) (ci := 11) (v := .ref h1) (C := RX12) (T := TX12) (N := 50) hx hb hts inw_X12_feed_X12 hown hK hP 0 rfl rfl 0 (by decide) (hts (.fieldLink RX12 61 "EarTableModel" "tape" "[B") (by decide +kernel)) (fun _ h9 => h9) rfl dX12_feed_74 ?_
        refine lv_aload_n hx hb dX12_feed_77 rfl (lv_at hl 2 rfl) ?_
        refine va_get (D := D) (ci := 11) (v := .int 0) (C := RX12) (T := TX12) (N := 50) hx hb hts inw_X12_feed_X12 hown hK hP 0 rfl rfl 2 (by decide) (hts (.fieldLink RX12 58 "EarTableModel" "taped" "I") (by decide +kernel)) (fun _ h9 => h9) rfl dX12_feed_78 ?_
        refine lv_iload hx hb dX12_feed_81 (lv_at hl 1 rfl) ?_
        refine lv_iadd hx hb dX12_feed_83 ?_
        refine kn_top (y := 0) (by decide) ?_
        refine lv_iload hx hb dX12_feed_84 (lv_at hl 0 rfl) ?_
        refine lv_bipush (v := 24) hx hb dX12_feed_86 (by decide) ?_
        refine lv_bipush (v := 8) hx hb dX12_feed_88 (by decide) ?_
        refine lv_iload hx hb dX12_feed_90 (lv_at hl 1 rfl) ?_
        refine lv_iconst (v := 3) hx hb dX12_feed_92 (by decide) ?_
        refine lv_iand hx hb dX12_feed_93 ?_
        refine kn_top (y := 0) (by decide) ?_
        refine lv_imul hx hb dX12_feed_94 ?_
        refine kn_top (y := 0) (by decide) ?_
        refine lv_isub hx hb dX12_feed_95 ?_
        refine kn_top (y := 24) (by decide) ?_
        refine lv_ishr hx hb dX12_feed_96 ?_
        refine lv_topi (fun z_274 _ => ?_)
        refine lv_i2b hx hb dX12_feed_97 rfl ?_
        refine lv_topi (fun z_275 _ => ?_)
        refine kn_bast hx hb hK hP hD hS 1 3 rfl rfl (kn_in (by decide)) dX12_feed_98 (fun f_276 H locs hP hD hS => ?_)
        have hP : va_P D vwCl [(h0, .inr (11, [.ref h1, v0, .int 0, v1, v2, v3, v4, v5, v6, v7, v8, v9, v10, v11, v12, v13, v14, v15, v16, v17, v18, v19, v20, v21, v22, v23, v24, v25, v26, v27, v28, v29, v30, v31, v32, v33, v34, v35, v36, v37, v38, v39, v40, v41, v42, v43, v44, v45, v46, v47])), (h1, .inl (cB, 1620, .inl f_276))] H := hP
        have hD : va_D A [(h0, .inr (11, [.ref h1, v0, .int 0, v1, v2, v3, v4, v5, v6, v7, v8, v9, v10, v11, v12, v13, v14, v15, v16, v17, v18, v19, v20, v21, v22, v23, v24, v25, v26, v27, v28, v29, v30, v31, v32, v33, v34, v35, v36, v37, v38, v39, v40, v41, v42, v43, v44, v45, v46, v47])), (h1, .inl (cB, 1620, .inl f_276))] := hD
        refine lv_iinc (v := 1) (lv' := [(6, .int 1), (7, .int p1), (0, .ref h0), (1, .int p1), (2, .int p2), (3, .int p3), (4, .int p4), (5, .int p5)]) hx hb dX12_feed_99 hl (k := 1) rfl (by decide) (by decide) rfl (fun ls hl => ?_)
        refine lv_goto (tgt := 18) hx hb dX12_feed_102 (by decide) ?_
        refine lv_iload hx hb dX12_feed_18 (lv_at hl 0 rfl) ?_
        refine lv_bipush (v := 20) hx hb dX12_feed_20 (by decide) ?_
        refine lv_icmp_ge (tgt := 105) hx hb dX12_feed_22 (by decide) (fun c_277 => ?_) (fun c_277 => ?_)
        · skip
          exact absurd c_277 (by decide)
        · skip
          refine lv_iload hx hb dX12_feed_25 (lv_at hl 0 rfl) ?_
          refine lv_iconst (v := 4) hx hb dX12_feed_27 (by decide) ?_
          refine lv_icmp_ge (tgt := 35) hx hb dX12_feed_28 (by decide) (fun c_278 => ?_) (fun c_278 => ?_)
          · skip
            exact absurd c_278 (by decide)
          · skip
            refine lv_iload_n hx hb dX12_feed_31 rfl (lv_at hl 3 rfl) ?_
            refine lv_goto (tgt := 71) hx hb dX12_feed_32 (by decide) ?_
            refine lv_istore (lv' := [(7, .int p1), (6, .int 1), (0, .ref h0), (1, .int p1), (2, .int p2), (3, .int p3), (4, .int p4), (5, .int p5)]) hx hb dX12_feed_71 hl (by decide) rfl (fun ls hl => ?_)
            refine lv_aload_n hx hb dX12_feed_73 rfl (lv_at hl 2 rfl) ?_
            refine va_get (D := D) (ci := 11) (v := .ref h1) (C := RX12) (T := TX12) (N := 50) hx hb hts inw_X12_feed_X12 hown hK hP 0 rfl rfl 0 (by decide) (hts (.fieldLink RX12 61 "EarTableModel" "tape" "[B") (by decide +kernel)) (fun _ h9 => h9) rfl dX12_feed_74 ?_
            refine lv_aload_n hx hb dX12_feed_77 rfl (lv_at hl 2 rfl) ?_
            refine va_get (D := D) (ci := 11) (v := .int 0) (C := RX12) (T := TX12) (N := 50) hx hb hts inw_X12_feed_X12 hown hK hP 0 rfl rfl 2 (by decide) (hts (.fieldLink RX12 58 "EarTableModel" "taped" "I") (by decide +kernel)) (fun _ h9 => h9) rfl dX12_feed_78 ?_
            refine lv_iload hx hb dX12_feed_81 (lv_at hl 1 rfl) ?_
            refine lv_iadd hx hb dX12_feed_83 ?_
            refine kn_top (y := 1) (by decide) ?_
            refine lv_iload hx hb dX12_feed_84 (lv_at hl 0 rfl) ?_
            refine lv_bipush (v := 24) hx hb dX12_feed_86 (by decide) ?_
            refine lv_bipush (v := 8) hx hb dX12_feed_88 (by decide) ?_
            refine lv_iload hx hb dX12_feed_90 (lv_at hl 1 rfl) ?_
            refine lv_iconst (v := 3) hx hb dX12_feed_92 (by decide) ?_
            refine lv_iand hx hb dX12_feed_93 ?_
            refine kn_top (y := 1) (by decide) ?_
            refine lv_imul hx hb dX12_feed_94 ?_
            refine kn_top (y := 8) (by decide) ?_
            refine lv_isub hx hb dX12_feed_95 ?_
            refine kn_top (y := 16) (by decide) ?_
            refine lv_ishr hx hb dX12_feed_96 ?_
            refine lv_topi (fun z_279 _ => ?_)
            refine lv_i2b hx hb dX12_feed_97 rfl ?_
            refine lv_topi (fun z_280 _ => ?_)
            refine kn_bast hx hb hK hP hD hS 1 3 rfl rfl (kn_in (by decide)) dX12_feed_98 (fun f_281 H locs hP hD hS => ?_)
            have hP : va_P D vwCl [(h0, .inr (11, [.ref h1, v0, .int 0, v1, v2, v3, v4, v5, v6, v7, v8, v9, v10, v11, v12, v13, v14, v15, v16, v17, v18, v19, v20, v21, v22, v23, v24, v25, v26, v27, v28, v29, v30, v31, v32, v33, v34, v35, v36, v37, v38, v39, v40, v41, v42, v43, v44, v45, v46, v47])), (h1, .inl (cB, 1620, .inl f_281))] H := hP
            have hD : va_D A [(h0, .inr (11, [.ref h1, v0, .int 0, v1, v2, v3, v4, v5, v6, v7, v8, v9, v10, v11, v12, v13, v14, v15, v16, v17, v18, v19, v20, v21, v22, v23, v24, v25, v26, v27, v28, v29, v30, v31, v32, v33, v34, v35, v36, v37, v38, v39, v40, v41, v42, v43, v44, v45, v46, v47])), (h1, .inl (cB, 1620, .inl f_281))] := hD
            refine lv_iinc (v := 2) (lv' := [(6, .int 2), (7, .int p1), (0, .ref h0), (1, .int p1), (2, .int p2), (3, .int p3), (4, .int p4), (5, .int p5)]) hx hb dX12_feed_99 hl (k := 1) rfl (by decide) (by decide) rfl (fun ls hl => ?_)
            refine lv_goto (tgt := 18) hx hb dX12_feed_102 (by decide) ?_
            refine lv_iload hx hb dX12_feed_18 (lv_at hl 0 rfl) ?_
            refine lv_bipush (v := 20) hx hb dX12_feed_20 (by decide) ?_
            refine lv_icmp_ge (tgt := 105) hx hb dX12_feed_22 (by decide) (fun c_282 => ?_) (fun c_282 => ?_)
            · skip
              exact absurd c_282 (by decide)
            · skip
              refine lv_iload hx hb dX12_feed_25 (lv_at hl 0 rfl) ?_
              refine lv_iconst (v := 4) hx hb dX12_feed_27 (by decide) ?_
              refine lv_icmp_ge (tgt := 35) hx hb dX12_feed_28 (by decide) (fun c_283 => ?_) (fun c_283 => ?_)
              · skip
                exact absurd c_283 (by decide)
              · skip
                refine lv_iload_n hx hb dX12_feed_31 rfl (lv_at hl 3 rfl) ?_
                refine lv_goto (tgt := 71) hx hb dX12_feed_32 (by decide) ?_
                refine lv_istore (lv' := [(7, .int p1), (6, .int 2), (0, .ref h0), (1, .int p1), (2, .int p2), (3, .int p3), (4, .int p4), (5, .int p5)]) hx hb dX12_feed_71 hl (by decide) rfl (fun ls hl => ?_)
                refine lv_aload_n hx hb dX12_feed_73 rfl (lv_at hl 2 rfl) ?_
                refine va_get (D := D) (ci := 11) (v := .ref h1) (C := RX12) (T := TX12) (N := 50) hx hb hts inw_X12_feed_X12 hown hK hP 0 rfl rfl 0 (by decide) (hts (.fieldLink RX12 61 "EarTableModel" "tape" "[B") (by decide +kernel)) (fun _ h9 => h9) rfl dX12_feed_74 ?_
                refine lv_aload_n hx hb dX12_feed_77 rfl (lv_at hl 2 rfl) ?_
                refine va_get (D := D) (ci := 11) (v := .int 0) (C := RX12) (T := TX12) (N := 50) hx hb hts inw_X12_feed_X12 hown hK hP 0 rfl rfl 2 (by decide) (hts (.fieldLink RX12 58 "EarTableModel" "taped" "I") (by decide +kernel)) (fun _ h9 => h9) rfl dX12_feed_78 ?_
                refine lv_iload hx hb dX12_feed_81 (lv_at hl 1 rfl) ?_
                refine lv_iadd hx hb dX12_feed_83 ?_
                refine kn_top (y := 2) (by decide) ?_
                refine lv_iload hx hb dX12_feed_84 (lv_at hl 0 rfl) ?_
                refine lv_bipush (v := 24) hx hb dX12_feed_86 (by decide) ?_
                refine lv_bipush (v := 8) hx hb dX12_feed_88 (by decide) ?_
                refine lv_iload hx hb dX12_feed_90 (lv_at hl 1 rfl) ?_
                refine lv_iconst (v := 3) hx hb dX12_feed_92 (by decide) ?_
                refine lv_iand hx hb dX12_feed_93 ?_
                refine kn_top (y := 2) (by decide) ?_
                refine lv_imul hx hb dX12_feed_94 ?_
                refine kn_top (y := 16) (by decide) ?_
                refine lv_isub hx hb dX12_feed_95 ?_
                refine kn_top (y := 8) (by decide) ?_
                refine lv_ishr hx hb dX12_feed_96 ?_
                refine lv_topi (fun z_284 _ => ?_)
                refine lv_i2b hx hb dX12_feed_97 rfl ?_
                refine lv_topi (fun z_285 _ => ?_)
                refine kn_bast hx hb hK hP hD hS 1 3 rfl rfl (kn_in (by decide)) dX12_feed_98 (fun f_286 H locs hP hD hS => ?_)
                have hP : va_P D vwCl [(h0, .inr (11, [.ref h1, v0, .int 0, v1, v2, v3, v4, v5, v6, v7, v8, v9, v10, v11, v12, v13, v14, v15, v16, v17, v18, v19, v20, v21, v22, v23, v24, v25, v26, v27, v28, v29, v30, v31, v32, v33, v34, v35, v36, v37, v38, v39, v40, v41, v42, v43, v44, v45, v46, v47])), (h1, .inl (cB, 1620, .inl f_286))] H := hP
                have hD : va_D A [(h0, .inr (11, [.ref h1, v0, .int 0, v1, v2, v3, v4, v5, v6, v7, v8, v9, v10, v11, v12, v13, v14, v15, v16, v17, v18, v19, v20, v21, v22, v23, v24, v25, v26, v27, v28, v29, v30, v31, v32, v33, v34, v35, v36, v37, v38, v39, v40, v41, v42, v43, v44, v45, v46, v47])), (h1, .inl (cB, 1620, .inl f_286))] := hD
                refine lv_iinc (v := 3) (lv' := [(6, .int 3), (7, .int p1), (0, .ref h0), (1, .int p1), (2, .int p2), (3, .int p3), (4, .int p4), (5, .int p5)]) hx hb dX12_feed_99 hl (k := 1) rfl (by decide) (by decide) rfl (fun ls hl => ?_)
                refine lv_goto (tgt := 18) hx hb dX12_feed_102 (by decide) ?_
                refine lv_iload hx hb dX12_feed_18 (lv_at hl 0 rfl) ?_
                refine lv_bipush (v := 20) hx hb dX12_feed_20 (by decide) ?_
                refine lv_icmp_ge (tgt := 105) hx hb dX12_feed_22 (by decide) (fun c_287 => ?_) (fun c_287 => ?_)
                · skip
                  exact absurd c_287 (by decide)
                · skip
                  refine lv_iload hx hb dX12_feed_25 (lv_at hl 0 rfl) ?_
                  refine lv_iconst (v := 4) hx hb dX12_feed_27 (by decide) ?_
                  refine lv_icmp_ge (tgt := 35) hx hb dX12_feed_28 (by decide) (fun c_288 => ?_) (fun c_288 => ?_)
                  · skip
                    exact absurd c_288 (by decide)
                  · skip
                    refine lv_iload_n hx hb dX12_feed_31 rfl (lv_at hl 3 rfl) ?_
                    refine lv_goto (tgt := 71) hx hb dX12_feed_32 (by decide) ?_
                    refine lv_istore (lv' := [(7, .int p1), (6, .int 3), (0, .ref h0), (1, .int p1), (2, .int p2), (3, .int p3), (4, .int p4), (5, .int p5)]) hx hb dX12_feed_71 hl (by decide) rfl (fun ls hl => ?_)
                    refine lv_aload_n hx hb dX12_feed_73 rfl (lv_at hl 2 rfl) ?_
                    refine va_get (D := D) (ci := 11) (v := .ref h1) (C := RX12) (T := TX12) (N := 50) hx hb hts inw_X12_feed_X12 hown hK hP 0 rfl rfl 0 (by decide) (hts (.fieldLink RX12 61 "EarTableModel" "tape" "[B") (by decide +kernel)) (fun _ h9 => h9) rfl dX12_feed_74 ?_
                    refine lv_aload_n hx hb dX12_feed_77 rfl (lv_at hl 2 rfl) ?_
                    refine va_get (D := D) (ci := 11) (v := .int 0) (C := RX12) (T := TX12) (N := 50) hx hb hts inw_X12_feed_X12 hown hK hP 0 rfl rfl 2 (by decide) (hts (.fieldLink RX12 58 "EarTableModel" "taped" "I") (by decide +kernel)) (fun _ h9 => h9) rfl dX12_feed_78 ?_
                    refine lv_iload hx hb dX12_feed_81 (lv_at hl 1 rfl) ?_
                    refine lv_iadd hx hb dX12_feed_83 ?_
                    refine kn_top (y := 3) (by decide) ?_
                    refine lv_iload hx hb dX12_feed_84 (lv_at hl 0 rfl) ?_
                    refine lv_bipush (v := 24) hx hb dX12_feed_86 (by decide) ?_
                    refine lv_bipush (v := 8) hx hb dX12_feed_88 (by decide) ?_
                    refine lv_iload hx hb dX12_feed_90 (lv_at hl 1 rfl) ?_
                    refine lv_iconst (v := 3) hx hb dX12_feed_92 (by decide) ?_
                    refine lv_iand hx hb dX12_feed_93 ?_
                    refine kn_top (y := 3) (by decide) ?_
                    refine lv_imul hx hb dX12_feed_94 ?_
                    refine kn_top (y := 24) (by decide) ?_
                    refine lv_isub hx hb dX12_feed_95 ?_
                    refine kn_top (y := 0) (by decide) ?_
                    refine lv_ishr hx hb dX12_feed_96 ?_
                    refine lv_topi (fun z_289 _ => ?_)
                    refine lv_i2b hx hb dX12_feed_97 rfl ?_
                    refine lv_topi (fun z_290 _ => ?_)
                    refine kn_bast hx hb hK hP hD hS 1 3 rfl rfl (kn_in (by decide)) dX12_feed_98 (fun f_291 H locs hP hD hS => ?_)
                    have hP : va_P D vwCl [(h0, .inr (11, [.ref h1, v0, .int 0, v1, v2, v3, v4, v5, v6, v7, v8, v9, v10, v11, v12, v13, v14, v15, v16, v17, v18, v19, v20, v21, v22, v23, v24, v25, v26, v27, v28, v29, v30, v31, v32, v33, v34, v35, v36, v37, v38, v39, v40, v41, v42, v43, v44, v45, v46, v47])), (h1, .inl (cB, 1620, .inl f_291))] H := hP
                    have hD : va_D A [(h0, .inr (11, [.ref h1, v0, .int 0, v1, v2, v3, v4, v5, v6, v7, v8, v9, v10, v11, v12, v13, v14, v15, v16, v17, v18, v19, v20, v21, v22, v23, v24, v25, v26, v27, v28, v29, v30, v31, v32, v33, v34, v35, v36, v37, v38, v39, v40, v41, v42, v43, v44, v45, v46, v47])), (h1, .inl (cB, 1620, .inl f_291))] := hD
                    refine lv_iinc (v := 4) (lv' := [(6, .int 4), (7, .int p1), (0, .ref h0), (1, .int p1), (2, .int p2), (3, .int p3), (4, .int p4), (5, .int p5)]) hx hb dX12_feed_99 hl (k := 1) rfl (by decide) (by decide) rfl (fun ls hl => ?_)
                    refine lv_goto (tgt := 18) hx hb dX12_feed_102 (by decide) ?_
                    refine lv_iload hx hb dX12_feed_18 (lv_at hl 0 rfl) ?_
                    refine lv_bipush (v := 20) hx hb dX12_feed_20 (by decide) ?_
                    refine lv_icmp_ge (tgt := 105) hx hb dX12_feed_22 (by decide) (fun c_292 => ?_) (fun c_292 => ?_)
                    · skip
                      exact absurd c_292 (by decide)
                    · skip
                      refine lv_iload hx hb dX12_feed_25 (lv_at hl 0 rfl) ?_
                      refine lv_iconst (v := 4) hx hb dX12_feed_27 (by decide) ?_
                      refine lv_icmp_ge (tgt := 35) hx hb dX12_feed_28 (by decide) (fun c_293 => ?_) (fun c_293 => ?_)
                      · skip
                        refine lv_iload hx hb dX12_feed_35 (lv_at hl 0 rfl) ?_
                        refine lv_bipush (v := 8) hx hb dX12_feed_37 (by decide) ?_
                        refine lv_icmp_ge (tgt := 46) hx hb dX12_feed_39 (by decide) (fun c_294 => ?_) (fun c_294 => ?_)
                        · skip
                          exact absurd c_294 (by decide)
                        · skip
                          refine lv_iload_n hx hb dX12_feed_42 rfl (lv_at hl 4 rfl) ?_
                          refine lv_goto (tgt := 71) hx hb dX12_feed_43 (by decide) ?_
                          refine lv_istore (lv' := [(7, .int p2), (6, .int 4), (0, .ref h0), (1, .int p1), (2, .int p2), (3, .int p3), (4, .int p4), (5, .int p5)]) hx hb dX12_feed_71 hl (by decide) rfl (fun ls hl => ?_)
                          refine lv_aload_n hx hb dX12_feed_73 rfl (lv_at hl 2 rfl) ?_
                          refine va_get (D := D) (ci := 11) (v := .ref h1) (C := RX12) (T := TX12) (N := 50) hx hb hts inw_X12_feed_X12 hown hK hP 0 rfl rfl 0 (by decide) (hts (.fieldLink RX12 61 "EarTableModel" "tape" "[B") (by decide +kernel)) (fun _ h9 => h9) rfl dX12_feed_74 ?_
                          refine lv_aload_n hx hb dX12_feed_77 rfl (lv_at hl 2 rfl) ?_
                          refine va_get (D := D) (ci := 11) (v := .int 0) (C := RX12) (T := TX12) (N := 50) hx hb hts inw_X12_feed_X12 hown hK hP 0 rfl rfl 2 (by decide) (hts (.fieldLink RX12 58 "EarTableModel" "taped" "I") (by decide +kernel)) (fun _ h9 => h9) rfl dX12_feed_78 ?_
                          refine lv_iload hx hb dX12_feed_81 (lv_at hl 1 rfl) ?_
                          refine lv_iadd hx hb dX12_feed_83 ?_
                          refine kn_top (y := 4) (by decide) ?_
                          refine lv_iload hx hb dX12_feed_84 (lv_at hl 0 rfl) ?_
                          refine lv_bipush (v := 24) hx hb dX12_feed_86 (by decide) ?_
                          refine lv_bipush (v := 8) hx hb dX12_feed_88 (by decide) ?_
                          refine lv_iload hx hb dX12_feed_90 (lv_at hl 1 rfl) ?_
                          refine lv_iconst (v := 3) hx hb dX12_feed_92 (by decide) ?_
                          refine lv_iand hx hb dX12_feed_93 ?_
                          refine kn_top (y := 0) (by decide) ?_
                          refine lv_imul hx hb dX12_feed_94 ?_
                          refine kn_top (y := 0) (by decide) ?_
                          refine lv_isub hx hb dX12_feed_95 ?_
                          refine kn_top (y := 24) (by decide) ?_
                          refine lv_ishr hx hb dX12_feed_96 ?_
                          refine lv_topi (fun z_295 _ => ?_)
                          refine lv_i2b hx hb dX12_feed_97 rfl ?_
                          refine lv_topi (fun z_296 _ => ?_)
                          refine kn_bast hx hb hK hP hD hS 1 3 rfl rfl (kn_in (by decide)) dX12_feed_98 (fun f_297 H locs hP hD hS => ?_)
                          have hP : va_P D vwCl [(h0, .inr (11, [.ref h1, v0, .int 0, v1, v2, v3, v4, v5, v6, v7, v8, v9, v10, v11, v12, v13, v14, v15, v16, v17, v18, v19, v20, v21, v22, v23, v24, v25, v26, v27, v28, v29, v30, v31, v32, v33, v34, v35, v36, v37, v38, v39, v40, v41, v42, v43, v44, v45, v46, v47])), (h1, .inl (cB, 1620, .inl f_297))] H := hP
                          have hD : va_D A [(h0, .inr (11, [.ref h1, v0, .int 0, v1, v2, v3, v4, v5, v6, v7, v8, v9, v10, v11, v12, v13, v14, v15, v16, v17, v18, v19, v20, v21, v22, v23, v24, v25, v26, v27, v28, v29, v30, v31, v32, v33, v34, v35, v36, v37, v38, v39, v40, v41, v42, v43, v44, v45, v46, v47])), (h1, .inl (cB, 1620, .inl f_297))] := hD
                          refine lv_iinc (v := 5) (lv' := [(6, .int 5), (7, .int p2), (0, .ref h0), (1, .int p1), (2, .int p2), (3, .int p3), (4, .int p4), (5, .int p5)]) hx hb dX12_feed_99 hl (k := 1) rfl (by decide) (by decide) rfl (fun ls hl => ?_)
                          refine lv_goto (tgt := 18) hx hb dX12_feed_102 (by decide) ?_
                          refine lv_iload hx hb dX12_feed_18 (lv_at hl 0 rfl) ?_
                          refine lv_bipush (v := 20) hx hb dX12_feed_20 (by decide) ?_
                          refine lv_icmp_ge (tgt := 105) hx hb dX12_feed_22 (by decide) (fun c_298 => ?_) (fun c_298 => ?_)
                          · skip
                            exact absurd c_298 (by decide)
                          · skip
                            refine lv_iload hx hb dX12_feed_25 (lv_at hl 0 rfl) ?_
                            refine lv_iconst (v := 4) hx hb dX12_feed_27 (by decide) ?_
                            refine lv_icmp_ge (tgt := 35) hx hb dX12_feed_28 (by decide) (fun c_299 => ?_) (fun c_299 => ?_)
                            · skip
                              refine lv_iload hx hb dX12_feed_35 (lv_at hl 0 rfl) ?_
                              refine lv_bipush (v := 8) hx hb dX12_feed_37 (by decide) ?_
                              refine lv_icmp_ge (tgt := 46) hx hb dX12_feed_39 (by decide) (fun c_300 => ?_) (fun c_300 => ?_)
                              · skip
                                exact absurd c_300 (by decide)
                              · skip
                                refine lv_iload_n hx hb dX12_feed_42 rfl (lv_at hl 4 rfl) ?_
                                refine lv_goto (tgt := 71) hx hb dX12_feed_43 (by decide) ?_
                                refine lv_istore (lv' := [(7, .int p2), (6, .int 5), (0, .ref h0), (1, .int p1), (2, .int p2), (3, .int p3), (4, .int p4), (5, .int p5)]) hx hb dX12_feed_71 hl (by decide) rfl (fun ls hl => ?_)
                                refine lv_aload_n hx hb dX12_feed_73 rfl (lv_at hl 2 rfl) ?_
                                refine va_get (D := D) (ci := 11) (v := .ref h1) (C := RX12) (T := TX12) (N := 50) hx hb hts inw_X12_feed_X12 hown hK hP 0 rfl rfl 0 (by decide) (hts (.fieldLink RX12 61 "EarTableModel" "tape" "[B") (by decide +kernel)) (fun _ h9 => h9) rfl dX12_feed_74 ?_
                                refine lv_aload_n hx hb dX12_feed_77 rfl (lv_at hl 2 rfl) ?_
                                refine va_get (D := D) (ci := 11) (v := .int 0) (C := RX12) (T := TX12) (N := 50) hx hb hts inw_X12_feed_X12 hown hK hP 0 rfl rfl 2 (by decide) (hts (.fieldLink RX12 58 "EarTableModel" "taped" "I") (by decide +kernel)) (fun _ h9 => h9) rfl dX12_feed_78 ?_
                                refine lv_iload hx hb dX12_feed_81 (lv_at hl 1 rfl) ?_
                                refine lv_iadd hx hb dX12_feed_83 ?_
                                refine kn_top (y := 5) (by decide) ?_
                                refine lv_iload hx hb dX12_feed_84 (lv_at hl 0 rfl) ?_
                                refine lv_bipush (v := 24) hx hb dX12_feed_86 (by decide) ?_
                                refine lv_bipush (v := 8) hx hb dX12_feed_88 (by decide) ?_
                                refine lv_iload hx hb dX12_feed_90 (lv_at hl 1 rfl) ?_
                                refine lv_iconst (v := 3) hx hb dX12_feed_92 (by decide) ?_
                                refine lv_iand hx hb dX12_feed_93 ?_
                                refine kn_top (y := 1) (by decide) ?_
                                refine lv_imul hx hb dX12_feed_94 ?_
                                refine kn_top (y := 8) (by decide) ?_
                                refine lv_isub hx hb dX12_feed_95 ?_
                                refine kn_top (y := 16) (by decide) ?_
                                refine lv_ishr hx hb dX12_feed_96 ?_
                                refine lv_topi (fun z_301 _ => ?_)
                                refine lv_i2b hx hb dX12_feed_97 rfl ?_
                                refine lv_topi (fun z_302 _ => ?_)
                                refine kn_bast hx hb hK hP hD hS 1 3 rfl rfl (kn_in (by decide)) dX12_feed_98 (fun f_303 H locs hP hD hS => ?_)
                                have hP : va_P D vwCl [(h0, .inr (11, [.ref h1, v0, .int 0, v1, v2, v3, v4, v5, v6, v7, v8, v9, v10, v11, v12, v13, v14, v15, v16, v17, v18, v19, v20, v21, v22, v23, v24, v25, v26, v27, v28, v29, v30, v31, v32, v33, v34, v35, v36, v37, v38, v39, v40, v41, v42, v43, v44, v45, v46, v47])), (h1, .inl (cB, 1620, .inl f_303))] H := hP
                                have hD : va_D A [(h0, .inr (11, [.ref h1, v0, .int 0, v1, v2, v3, v4, v5, v6, v7, v8, v9, v10, v11, v12, v13, v14, v15, v16, v17, v18, v19, v20, v21, v22, v23, v24, v25, v26, v27, v28, v29, v30, v31, v32, v33, v34, v35, v36, v37, v38, v39, v40, v41, v42, v43, v44, v45, v46, v47])), (h1, .inl (cB, 1620, .inl f_303))] := hD
                                refine lv_iinc (v := 6) (lv' := [(6, .int 6), (7, .int p2), (0, .ref h0), (1, .int p1), (2, .int p2), (3, .int p3), (4, .int p4), (5, .int p5)]) hx hb dX12_feed_99 hl (k := 1) rfl (by decide) (by decide) rfl (fun ls hl => ?_)
                                refine lv_goto (tgt := 18) hx hb dX12_feed_102 (by decide) ?_
                                refine lv_iload hx hb dX12_feed_18 (lv_at hl 0 rfl) ?_
                                refine lv_bipush (v := 20) hx hb dX12_feed_20 (by decide) ?_
                                refine lv_icmp_ge (tgt := 105) hx hb dX12_feed_22 (by decide) (fun c_304 => ?_) (fun c_304 => ?_)
                                · skip
                                  exact absurd c_304 (by decide)
                                · skip
                                  refine lv_iload hx hb dX12_feed_25 (lv_at hl 0 rfl) ?_
                                  refine lv_iconst (v := 4) hx hb dX12_feed_27 (by decide) ?_
                                  refine lv_icmp_ge (tgt := 35) hx hb dX12_feed_28 (by decide) (fun c_305 => ?_) (fun c_305 => ?_)
                                  · skip
                                    refine lv_iload hx hb dX12_feed_35 (lv_at hl 0 rfl) ?_
                                    refine lv_bipush (v := 8) hx hb dX12_feed_37 (by decide) ?_
                                    refine lv_icmp_ge (tgt := 46) hx hb dX12_feed_39 (by decide) (fun c_306 => ?_) (fun c_306 => ?_)
                                    · skip
                                      exact absurd c_306 (by decide)
                                    · skip
                                      refine lv_iload_n hx hb dX12_feed_42 rfl (lv_at hl 4 rfl) ?_
                                      refine lv_goto (tgt := 71) hx hb dX12_feed_43 (by decide) ?_
                                      refine lv_istore (lv' := [(7, .int p2), (6, .int 6), (0, .ref h0), (1, .int p1), (2, .int p2), (3, .int p3), (4, .int p4), (5, .int p5)]) hx hb dX12_feed_71 hl (by decide) rfl (fun ls hl => ?_)
                                      refine lv_aload_n hx hb dX12_feed_73 rfl (lv_at hl 2 rfl) ?_
                                      refine va_get (D := D) (ci := 11) (v := .ref h1) (C := RX12) (T := TX12) (N := 50) hx hb hts inw_X12_feed_X12 hown hK hP 0 rfl rfl 0 (by decide) (hts (.fieldLink RX12 61 "EarTableModel" "tape" "[B") (by decide +kernel)) (fun _ h9 => h9) rfl dX12_feed_74 ?_
                                      refine lv_aload_n hx hb dX12_feed_77 rfl (lv_at hl 2 rfl) ?_
                                      refine va_get (D := D) (ci := 11) (v := .int 0) (C := RX12) (T := TX12) (N := 50) hx hb hts inw_X12_feed_X12 hown hK hP 0 rfl rfl 2 (by decide) (hts (.fieldLink RX12 58 "EarTableModel" "taped" "I") (by decide +kernel)) (fun _ h9 => h9) rfl dX12_feed_78 ?_
                                      refine lv_iload hx hb dX12_feed_81 (lv_at hl 1 rfl) ?_
                                      refine lv_iadd hx hb dX12_feed_83 ?_
                                      refine kn_top (y := 6) (by decide) ?_
                                      refine lv_iload hx hb dX12_feed_84 (lv_at hl 0 rfl) ?_
                                      refine lv_bipush (v := 24) hx hb dX12_feed_86 (by decide) ?_
                                      refine lv_bipush (v := 8) hx hb dX12_feed_88 (by decide) ?_
                                      refine lv_iload hx hb dX12_feed_90 (lv_at hl 1 rfl) ?_
                                      refine lv_iconst (v := 3) hx hb dX12_feed_92 (by decide) ?_
                                      refine lv_iand hx hb dX12_feed_93 ?_
                                      refine kn_top (y := 2) (by decide) ?_
                                      refine lv_imul hx hb dX12_feed_94 ?_
                                      refine kn_top (y := 16) (by decide) ?_
                                      refine lv_isub hx hb dX12_feed_95 ?_
                                      refine kn_top (y := 8) (by decide) ?_
                                      refine lv_ishr hx hb dX12_feed_96 ?_
                                      refine lv_topi (fun z_307 _ => ?_)
                                      refine lv_i2b hx hb dX12_feed_97 rfl ?_
                                      refine lv_topi (fun z_308 _ => ?_)
                                      refine kn_bast hx hb hK hP hD hS 1 3 rfl rfl (kn_in (by decide)) dX12_feed_98 (fun f_309 H locs hP hD hS => ?_)
                                      have hP : va_P D vwCl [(h0, .inr (11, [.ref h1, v0, .int 0, v1, v2, v3, v4, v5, v6, v7, v8, v9, v10, v11, v12, v13, v14, v15, v16, v17, v18, v19, v20, v21, v22, v23, v24, v25, v26, v27, v28, v29, v30, v31, v32, v33, v34, v35, v36, v37, v38, v39, v40, v41, v42, v43, v44, v45, v46, v47])), (h1, .inl (cB, 1620, .inl f_309))] H := hP
                                      have hD : va_D A [(h0, .inr (11, [.ref h1, v0, .int 0, v1, v2, v3, v4, v5, v6, v7, v8, v9, v10, v11, v12, v13, v14, v15, v16, v17, v18, v19, v20, v21, v22, v23, v24, v25, v26, v27, v28, v29, v30, v31, v32, v33, v34, v35, v36, v37, v38, v39, v40, v41, v42, v43, v44, v45, v46, v47])), (h1, .inl (cB, 1620, .inl f_309))] := hD
                                      refine lv_iinc (v := 7) (lv' := [(6, .int 7), (7, .int p2), (0, .ref h0), (1, .int p1), (2, .int p2), (3, .int p3), (4, .int p4), (5, .int p5)]) hx hb dX12_feed_99 hl (k := 1) rfl (by decide) (by decide) rfl (fun ls hl => ?_)
                                      refine lv_goto (tgt := 18) hx hb dX12_feed_102 (by decide) ?_
                                      refine lv_iload hx hb dX12_feed_18 (lv_at hl 0 rfl) ?_
                                      refine lv_bipush (v := 20) hx hb dX12_feed_20 (by decide) ?_
                                      refine lv_icmp_ge (tgt := 105) hx hb dX12_feed_22 (by decide) (fun c_310 => ?_) (fun c_310 => ?_)
                                      · skip
                                        exact absurd c_310 (by decide)
                                      · skip
                                        refine lv_iload hx hb dX12_feed_25 (lv_at hl 0 rfl) ?_
                                        refine lv_iconst (v := 4) hx hb dX12_feed_27 (by decide) ?_
                                        refine lv_icmp_ge (tgt := 35) hx hb dX12_feed_28 (by decide) (fun c_311 => ?_) (fun c_311 => ?_)
                                        · skip
                                          refine lv_iload hx hb dX12_feed_35 (lv_at hl 0 rfl) ?_
                                          refine lv_bipush (v := 8) hx hb dX12_feed_37 (by decide) ?_
                                          refine lv_icmp_ge (tgt := 46) hx hb dX12_feed_39 (by decide) (fun c_312 => ?_) (fun c_312 => ?_)
                                          · skip
                                            exact absurd c_312 (by decide)
                                          · skip
                                            refine lv_iload_n hx hb dX12_feed_42 rfl (lv_at hl 4 rfl) ?_
                                            refine lv_goto (tgt := 71) hx hb dX12_feed_43 (by decide) ?_
                                            refine lv_istore (lv' := [(7, .int p2), (6, .int 7), (0, .ref h0), (1, .int p1), (2, .int p2), (3, .int p3), (4, .int p4), (5, .int p5)]) hx hb dX12_feed_71 hl (by decide) rfl (fun ls hl => ?_)
                                            refine lv_aload_n hx hb dX12_feed_73 rfl (lv_at hl 2 rfl) ?_
                                            refine va_get (D := D) (ci := 11) (v := .ref h1) (C := RX12) (T := TX12) (N := 50) hx hb hts inw_X12_feed_X12 hown hK hP 0 rfl rfl 0 (by decide) (hts (.fieldLink RX12 61 "EarTableModel" "tape" "[B") (by decide +kernel)) (fun _ h9 => h9) rfl dX12_feed_74 ?_
                                            refine lv_aload_n hx hb dX12_feed_77 rfl (lv_at hl 2 rfl) ?_
                                            refine va_get (D := D) (ci := 11) (v := .int 0) (C := RX12) (T := TX12) (N := 50) hx hb hts inw_X12_feed_X12 hown hK hP 0 rfl rfl 2 (by decide) (hts (.fieldLink RX12 58 "EarTableModel" "taped" "I") (by decide +kernel)) (fun _ h9 => h9) rfl dX12_feed_78 ?_
                                            refine lv_iload hx hb dX12_feed_81 (lv_at hl 1 rfl) ?_
                                            refine lv_iadd hx hb dX12_feed_83 ?_
                                            refine kn_top (y := 7) (by decide) ?_
                                            refine lv_iload hx hb dX12_feed_84 (lv_at hl 0 rfl) ?_
                                            refine lv_bipush (v := 24) hx hb dX12_feed_86 (by decide) ?_
                                            refine lv_bipush (v := 8) hx hb dX12_feed_88 (by decide) ?_
                                            refine lv_iload hx hb dX12_feed_90 (lv_at hl 1 rfl) ?_
                                            refine lv_iconst (v := 3) hx hb dX12_feed_92 (by decide) ?_
                                            refine lv_iand hx hb dX12_feed_93 ?_
                                            refine kn_top (y := 3) (by decide) ?_
                                            refine lv_imul hx hb dX12_feed_94 ?_
                                            refine kn_top (y := 24) (by decide) ?_
                                            refine lv_isub hx hb dX12_feed_95 ?_
                                            refine kn_top (y := 0) (by decide) ?_
                                            refine lv_ishr hx hb dX12_feed_96 ?_
                                            refine lv_topi (fun z_313 _ => ?_)
                                            refine lv_i2b hx hb dX12_feed_97 rfl ?_
                                            refine lv_topi (fun z_314 _ => ?_)
                                            refine kn_bast hx hb hK hP hD hS 1 3 rfl rfl (kn_in (by decide)) dX12_feed_98 (fun f_315 H locs hP hD hS => ?_)
                                            have hP : va_P D vwCl [(h0, .inr (11, [.ref h1, v0, .int 0, v1, v2, v3, v4, v5, v6, v7, v8, v9, v10, v11, v12, v13, v14, v15, v16, v17, v18, v19, v20, v21, v22, v23, v24, v25, v26, v27, v28, v29, v30, v31, v32, v33, v34, v35, v36, v37, v38, v39, v40, v41, v42, v43, v44, v45, v46, v47])), (h1, .inl (cB, 1620, .inl f_315))] H := hP
                                            have hD : va_D A [(h0, .inr (11, [.ref h1, v0, .int 0, v1, v2, v3, v4, v5, v6, v7, v8, v9, v10, v11, v12, v13, v14, v15, v16, v17, v18, v19, v20, v21, v22, v23, v24, v25, v26, v27, v28, v29, v30, v31, v32, v33, v34, v35, v36, v37, v38, v39, v40, v41, v42, v43, v44, v45, v46, v47])), (h1, .inl (cB, 1620, .inl f_315))] := hD
                                            refine lv_iinc (v := 8) (lv' := [(6, .int 8), (7, .int p2), (0, .ref h0), (1, .int p1), (2, .int p2), (3, .int p3), (4, .int p4), (5, .int p5)]) hx hb dX12_feed_99 hl (k := 1) rfl (by decide) (by decide) rfl (fun ls hl => ?_)
                                            refine lv_goto (tgt := 18) hx hb dX12_feed_102 (by decide) ?_
                                            refine lv_iload hx hb dX12_feed_18 (lv_at hl 0 rfl) ?_
                                            refine lv_bipush (v := 20) hx hb dX12_feed_20 (by decide) ?_
                                            refine lv_icmp_ge (tgt := 105) hx hb dX12_feed_22 (by decide) (fun c_316 => ?_) (fun c_316 => ?_)
                                            · skip
                                              exact absurd c_316 (by decide)
                                            · skip
                                              refine lv_iload hx hb dX12_feed_25 (lv_at hl 0 rfl) ?_
                                              refine lv_iconst (v := 4) hx hb dX12_feed_27 (by decide) ?_
                                              refine lv_icmp_ge (tgt := 35) hx hb dX12_feed_28 (by decide) (fun c_317 => ?_) (fun c_317 => ?_)
                                              · skip
                                                refine lv_iload hx hb dX12_feed_35 (lv_at hl 0 rfl) ?_
                                                refine lv_bipush (v := 8) hx hb dX12_feed_37 (by decide) ?_
                                                refine lv_icmp_ge (tgt := 46) hx hb dX12_feed_39 (by decide) (fun c_318 => ?_) (fun c_318 => ?_)
                                                · skip
                                                  refine lv_iload hx hb dX12_feed_46 (lv_at hl 0 rfl) ?_
                                                  refine lv_bipush (v := 12) hx hb dX12_feed_48 (by decide) ?_
                                                  refine lv_icmp_ge (tgt := 57) hx hb dX12_feed_50 (by decide) (fun c_319 => ?_) (fun c_319 => ?_)
                                                  · skip
                                                    exact absurd c_319 (by decide)
                                                  · skip
                                                    refine lv_iload_n hx hb dX12_feed_53 rfl (lv_at hl 5 rfl) ?_
                                                    refine lv_goto (tgt := 71) hx hb dX12_feed_54 (by decide) ?_
                                                    refine lv_istore (lv' := [(7, .int p3), (6, .int 8), (0, .ref h0), (1, .int p1), (2, .int p2), (3, .int p3), (4, .int p4), (5, .int p5)]) hx hb dX12_feed_71 hl (by decide) rfl (fun ls hl => ?_)
                                                    refine lv_aload_n hx hb dX12_feed_73 rfl (lv_at hl 2 rfl) ?_
                                                    refine va_get (D := D) (ci := 11) (v := .ref h1) (C := RX12) (T := TX12) (N := 50) hx hb hts inw_X12_feed_X12 hown hK hP 0 rfl rfl 0 (by decide) (hts (.fieldLink RX12 61 "EarTableModel" "tape" "[B") (by decide +kernel)) (fun _ h9 => h9) rfl dX12_feed_74 ?_
                                                    refine lv_aload_n hx hb dX12_feed_77 rfl (lv_at hl 2 rfl) ?_
                                                    refine va_get (D := D) (ci := 11) (v := .int 0) (C := RX12) (T := TX12) (N := 50) hx hb hts inw_X12_feed_X12 hown hK hP 0 rfl rfl 2 (by decide) (hts (.fieldLink RX12 58 "EarTableModel" "taped" "I") (by decide +kernel)) (fun _ h9 => h9) rfl dX12_feed_78 ?_
                                                    refine lv_iload hx hb dX12_feed_81 (lv_at hl 1 rfl) ?_
                                                    refine lv_iadd hx hb dX12_feed_83 ?_
                                                    refine kn_top (y := 8) (by decide) ?_
                                                    refine lv_iload hx hb dX12_feed_84 (lv_at hl 0 rfl) ?_
                                                    refine lv_bipush (v := 24) hx hb dX12_feed_86 (by decide) ?_
                                                    refine lv_bipush (v := 8) hx hb dX12_feed_88 (by decide) ?_
                                                    refine lv_iload hx hb dX12_feed_90 (lv_at hl 1 rfl) ?_
                                                    refine lv_iconst (v := 3) hx hb dX12_feed_92 (by decide) ?_
                                                    refine lv_iand hx hb dX12_feed_93 ?_
                                                    refine kn_top (y := 0) (by decide) ?_
                                                    refine lv_imul hx hb dX12_feed_94 ?_
                                                    refine kn_top (y := 0) (by decide) ?_
                                                    refine lv_isub hx hb dX12_feed_95 ?_
                                                    refine kn_top (y := 24) (by decide) ?_
                                                    refine lv_ishr hx hb dX12_feed_96 ?_
                                                    refine lv_topi (fun z_320 _ => ?_)
                                                    refine lv_i2b hx hb dX12_feed_97 rfl ?_
                                                    refine lv_topi (fun z_321 _ => ?_)
                                                    refine kn_bast hx hb hK hP hD hS 1 3 rfl rfl (kn_in (by decide)) dX12_feed_98 (fun f_322 H locs hP hD hS => ?_)
                                                    have hP : va_P D vwCl [(h0, .inr (11, [.ref h1, v0, .int 0, v1, v2, v3, v4, v5, v6, v7, v8, v9, v10, v11, v12, v13, v14, v15, v16, v17, v18, v19, v20, v21, v22, v23, v24, v25, v26, v27, v28, v29, v30, v31, v32, v33, v34, v35, v36, v37, v38, v39, v40, v41, v42, v43, v44, v45, v46, v47])), (h1, .inl (cB, 1620, .inl f_322))] H := hP
                                                    have hD : va_D A [(h0, .inr (11, [.ref h1, v0, .int 0, v1, v2, v3, v4, v5, v6, v7, v8, v9, v10, v11, v12, v13, v14, v15, v16, v17, v18, v19, v20, v21, v22, v23, v24, v25, v26, v27, v28, v29, v30, v31, v32, v33, v34, v35, v36, v37, v38, v39, v40, v41, v42, v43, v44, v45, v46, v47])), (h1, .inl (cB, 1620, .inl f_322))] := hD
                                                    refine lv_iinc (v := 9) (lv' := [(6, .int 9), (7, .int p3), (0, .ref h0), (1, .int p1), (2, .int p2), (3, .int p3), (4, .int p4), (5, .int p5)]) hx hb dX12_feed_99 hl (k := 1) rfl (by decide) (by decide) rfl (fun ls hl => ?_)
                                                    refine lv_goto (tgt := 18) hx hb dX12_feed_102 (by decide) ?_
                                                    refine lv_iload hx hb dX12_feed_18 (lv_at hl 0 rfl) ?_
                                                    refine lv_bipush (v := 20) hx hb dX12_feed_20 (by decide) ?_
                                                    refine lv_icmp_ge (tgt := 105) hx hb dX12_feed_22 (by decide) (fun c_323 => ?_) (fun c_323 => ?_)
                                                    · skip
                                                      exact absurd c_323 (by decide)
                                                    · skip
                                                      refine lv_iload hx hb dX12_feed_25 (lv_at hl 0 rfl) ?_
                                                      refine lv_iconst (v := 4) hx hb dX12_feed_27 (by decide) ?_
                                                      refine lv_icmp_ge (tgt := 35) hx hb dX12_feed_28 (by decide) (fun c_324 => ?_) (fun c_324 => ?_)
                                                      · skip
                                                        refine lv_iload hx hb dX12_feed_35 (lv_at hl 0 rfl) ?_
                                                        refine lv_bipush (v := 8) hx hb dX12_feed_37 (by decide) ?_
                                                        refine lv_icmp_ge (tgt := 46) hx hb dX12_feed_39 (by decide) (fun c_325 => ?_) (fun c_325 => ?_)
                                                        · skip
                                                          refine lv_iload hx hb dX12_feed_46 (lv_at hl 0 rfl) ?_
                                                          refine lv_bipush (v := 12) hx hb dX12_feed_48 (by decide) ?_
                                                          refine lv_icmp_ge (tgt := 57) hx hb dX12_feed_50 (by decide) (fun c_326 => ?_) (fun c_326 => ?_)
                                                          · skip
                                                            exact absurd c_326 (by decide)
                                                          · skip
                                                            refine lv_iload_n hx hb dX12_feed_53 rfl (lv_at hl 5 rfl) ?_
                                                            refine lv_goto (tgt := 71) hx hb dX12_feed_54 (by decide) ?_
                                                            refine lv_istore (lv' := [(7, .int p3), (6, .int 9), (0, .ref h0), (1, .int p1), (2, .int p2), (3, .int p3), (4, .int p4), (5, .int p5)]) hx hb dX12_feed_71 hl (by decide) rfl (fun ls hl => ?_)
                                                            refine lv_aload_n hx hb dX12_feed_73 rfl (lv_at hl 2 rfl) ?_
                                                            refine va_get (D := D) (ci := 11) (v := .ref h1) (C := RX12) (T := TX12) (N := 50) hx hb hts inw_X12_feed_X12 hown hK hP 0 rfl rfl 0 (by decide) (hts (.fieldLink RX12 61 "EarTableModel" "tape" "[B") (by decide +kernel)) (fun _ h9 => h9) rfl dX12_feed_74 ?_
                                                            refine lv_aload_n hx hb dX12_feed_77 rfl (lv_at hl 2 rfl) ?_
                                                            refine va_get (D := D) (ci := 11) (v := .int 0) (C := RX12) (T := TX12) (N := 50) hx hb hts inw_X12_feed_X12 hown hK hP 0 rfl rfl 2 (by decide) (hts (.fieldLink RX12 58 "EarTableModel" "taped" "I") (by decide +kernel)) (fun _ h9 => h9) rfl dX12_feed_78 ?_
                                                            refine lv_iload hx hb dX12_feed_81 (lv_at hl 1 rfl) ?_
                                                            refine lv_iadd hx hb dX12_feed_83 ?_
                                                            refine kn_top (y := 9) (by decide) ?_
                                                            refine lv_iload hx hb dX12_feed_84 (lv_at hl 0 rfl) ?_
                                                            refine lv_bipush (v := 24) hx hb dX12_feed_86 (by decide) ?_
                                                            refine lv_bipush (v := 8) hx hb dX12_feed_88 (by decide) ?_
                                                            refine lv_iload hx hb dX12_feed_90 (lv_at hl 1 rfl) ?_
                                                            refine lv_iconst (v := 3) hx hb dX12_feed_92 (by decide) ?_
                                                            refine lv_iand hx hb dX12_feed_93 ?_
                                                            refine kn_top (y := 1) (by decide) ?_
                                                            refine lv_imul hx hb dX12_feed_94 ?_
                                                            refine kn_top (y := 8) (by decide) ?_
                                                            refine lv_isub hx hb dX12_feed_95 ?_
                                                            refine kn_top (y := 16) (by decide) ?_
                                                            refine lv_ishr hx hb dX12_feed_96 ?_
                                                            refine lv_topi (fun z_327 _ => ?_)
                                                            refine lv_i2b hx hb dX12_feed_97 rfl ?_
                                                            refine lv_topi (fun z_328 _ => ?_)
                                                            refine kn_bast hx hb hK hP hD hS 1 3 rfl rfl (kn_in (by decide)) dX12_feed_98 (fun f_329 H locs hP hD hS => ?_)
                                                            have hP : va_P D vwCl [(h0, .inr (11, [.ref h1, v0, .int 0, v1, v2, v3, v4, v5, v6, v7, v8, v9, v10, v11, v12, v13, v14, v15, v16, v17, v18, v19, v20, v21, v22, v23, v24, v25, v26, v27, v28, v29, v30, v31, v32, v33, v34, v35, v36, v37, v38, v39, v40, v41, v42, v43, v44, v45, v46, v47])), (h1, .inl (cB, 1620, .inl f_329))] H := hP
                                                            have hD : va_D A [(h0, .inr (11, [.ref h1, v0, .int 0, v1, v2, v3, v4, v5, v6, v7, v8, v9, v10, v11, v12, v13, v14, v15, v16, v17, v18, v19, v20, v21, v22, v23, v24, v25, v26, v27, v28, v29, v30, v31, v32, v33, v34, v35, v36, v37, v38, v39, v40, v41, v42, v43, v44, v45, v46, v47])), (h1, .inl (cB, 1620, .inl f_329))] := hD
                                                            refine lv_iinc (v := 10) (lv' := [(6, .int 10), (7, .int p3), (0, .ref h0), (1, .int p1), (2, .int p2), (3, .int p3), (4, .int p4), (5, .int p5)]) hx hb dX12_feed_99 hl (k := 1) rfl (by decide) (by decide) rfl (fun ls hl => ?_)
                                                            refine lv_goto (tgt := 18) hx hb dX12_feed_102 (by decide) ?_
                                                            refine lv_iload hx hb dX12_feed_18 (lv_at hl 0 rfl) ?_
                                                            refine lv_bipush (v := 20) hx hb dX12_feed_20 (by decide) ?_
                                                            refine lv_icmp_ge (tgt := 105) hx hb dX12_feed_22 (by decide) (fun c_330 => ?_) (fun c_330 => ?_)
                                                            · skip
                                                              exact absurd c_330 (by decide)
                                                            · skip
                                                              refine lv_iload hx hb dX12_feed_25 (lv_at hl 0 rfl) ?_
                                                              refine lv_iconst (v := 4) hx hb dX12_feed_27 (by decide) ?_
                                                              refine lv_icmp_ge (tgt := 35) hx hb dX12_feed_28 (by decide) (fun c_331 => ?_) (fun c_331 => ?_)
                                                              · skip
                                                                refine lv_iload hx hb dX12_feed_35 (lv_at hl 0 rfl) ?_
                                                                refine lv_bipush (v := 8) hx hb dX12_feed_37 (by decide) ?_
                                                                refine lv_icmp_ge (tgt := 46) hx hb dX12_feed_39 (by decide) (fun c_332 => ?_) (fun c_332 => ?_)
                                                                · skip
                                                                  refine lv_iload hx hb dX12_feed_46 (lv_at hl 0 rfl) ?_
                                                                  refine lv_bipush (v := 12) hx hb dX12_feed_48 (by decide) ?_
                                                                  refine lv_icmp_ge (tgt := 57) hx hb dX12_feed_50 (by decide) (fun c_333 => ?_) (fun c_333 => ?_)
                                                                  · skip
                                                                    exact absurd c_333 (by decide)
                                                                  · skip
                                                                    refine lv_iload_n hx hb dX12_feed_53 rfl (lv_at hl 5 rfl) ?_
                                                                    refine lv_goto (tgt := 71) hx hb dX12_feed_54 (by decide) ?_
                                                                    refine lv_istore (lv' := [(7, .int p3), (6, .int 10), (0, .ref h0), (1, .int p1), (2, .int p2), (3, .int p3), (4, .int p4), (5, .int p5)]) hx hb dX12_feed_71 hl (by decide) rfl (fun ls hl => ?_)
                                                                    refine lv_aload_n hx hb dX12_feed_73 rfl (lv_at hl 2 rfl) ?_
                                                                    refine va_get (D := D) (ci := 11) (v := .ref h1) (C := RX12) (T := TX12) (N := 50) hx hb hts inw_X12_feed_X12 hown hK hP 0 rfl rfl 0 (by decide) (hts (.fieldLink RX12 61 "EarTableModel" "tape" "[B") (by decide +kernel)) (fun _ h9 => h9) rfl dX12_feed_74 ?_
                                                                    refine lv_aload_n hx hb dX12_feed_77 rfl (lv_at hl 2 rfl) ?_
                                                                    refine va_get (D := D) (ci := 11) (v := .int 0) (C := RX12) (T := TX12) (N := 50) hx hb hts inw_X12_feed_X12 hown hK hP 0 rfl rfl 2 (by decide) (hts (.fieldLink RX12 58 "EarTableModel" "taped" "I") (by decide +kernel)) (fun _ h9 => h9) rfl dX12_feed_78 ?_
                                                                    refine lv_iload hx hb dX12_feed_81 (lv_at hl 1 rfl) ?_
                                                                    refine lv_iadd hx hb dX12_feed_83 ?_
                                                                    refine kn_top (y := 10) (by decide) ?_
                                                                    refine lv_iload hx hb dX12_feed_84 (lv_at hl 0 rfl) ?_
                                                                    refine lv_bipush (v := 24) hx hb dX12_feed_86 (by decide) ?_
                                                                    refine lv_bipush (v := 8) hx hb dX12_feed_88 (by decide) ?_
                                                                    refine lv_iload hx hb dX12_feed_90 (lv_at hl 1 rfl) ?_
                                                                    refine lv_iconst (v := 3) hx hb dX12_feed_92 (by decide) ?_
                                                                    refine lv_iand hx hb dX12_feed_93 ?_
                                                                    refine kn_top (y := 2) (by decide) ?_
                                                                    refine lv_imul hx hb dX12_feed_94 ?_
                                                                    refine kn_top (y := 16) (by decide) ?_
                                                                    refine lv_isub hx hb dX12_feed_95 ?_
                                                                    refine kn_top (y := 8) (by decide) ?_
                                                                    refine lv_ishr hx hb dX12_feed_96 ?_
                                                                    refine lv_topi (fun z_334 _ => ?_)
                                                                    refine lv_i2b hx hb dX12_feed_97 rfl ?_
                                                                    refine lv_topi (fun z_335 _ => ?_)
                                                                    refine kn_bast hx hb hK hP hD hS 1 3 rfl rfl (kn_in (by decide)) dX12_feed_98 (fun f_336 H locs hP hD hS => ?_)
                                                                    have hP : va_P D vwCl [(h0, .inr (11, [.ref h1, v0, .int 0, v1, v2, v3, v4, v5, v6, v7, v8, v9, v10, v11, v12, v13, v14, v15, v16, v17, v18, v19, v20, v21, v22, v23, v24, v25, v26, v27, v28, v29, v30, v31, v32, v33, v34, v35, v36, v37, v38, v39, v40, v41, v42, v43, v44, v45, v46, v47])), (h1, .inl (cB, 1620, .inl f_336))] H := hP
                                                                    have hD : va_D A [(h0, .inr (11, [.ref h1, v0, .int 0, v1, v2, v3, v4, v5, v6, v7, v8, v9, v10, v11, v12, v13, v14, v15, v16, v17, v18, v19, v20, v21, v22, v23, v24, v25, v26, v27, v28, v29, v30, v31, v32, v33, v34, v35, v36, v37, v38, v39, v40, v41, v42, v43, v44, v45, v46, v47])), (h1, .inl (cB, 1620, .inl f_336))] := hD
                                                                    refine lv_iinc (v := 11) (lv' := [(6, .int 11), (7, .int p3), (0, .ref h0), (1, .int p1), (2, .int p2), (3, .int p3), (4, .int p4), (5, .int p5)]) hx hb dX12_feed_99 hl (k := 1) rfl (by decide) (by decide) rfl (fun ls hl => ?_)
                                                                    refine lv_goto (tgt := 18) hx hb dX12_feed_102 (by decide) ?_
                                                                    refine lv_iload hx hb dX12_feed_18 (lv_at hl 0 rfl) ?_
                                                                    refine lv_bipush (v := 20) hx hb dX12_feed_20 (by decide) ?_
                                                                    refine lv_icmp_ge (tgt := 105) hx hb dX12_feed_22 (by decide) (fun c_337 => ?_) (fun c_337 => ?_)
                                                                    · skip
                                                                      exact absurd c_337 (by decide)
                                                                    · skip
                                                                      refine lv_iload hx hb dX12_feed_25 (lv_at hl 0 rfl) ?_
                                                                      refine lv_iconst (v := 4) hx hb dX12_feed_27 (by decide) ?_
                                                                      refine lv_icmp_ge (tgt := 35) hx hb dX12_feed_28 (by decide) (fun c_338 => ?_) (fun c_338 => ?_)
                                                                      · skip
                                                                        refine lv_iload hx hb dX12_feed_35 (lv_at hl 0 rfl) ?_
                                                                        refine lv_bipush (v := 8) hx hb dX12_feed_37 (by decide) ?_
                                                                        refine lv_icmp_ge (tgt := 46) hx hb dX12_feed_39 (by decide) (fun c_339 => ?_) (fun c_339 => ?_)
                                                                        · skip
                                                                          refine lv_iload hx hb dX12_feed_46 (lv_at hl 0 rfl) ?_
                                                                          refine lv_bipush (v := 12) hx hb dX12_feed_48 (by decide) ?_
                                                                          refine lv_icmp_ge (tgt := 57) hx hb dX12_feed_50 (by decide) (fun c_340 => ?_) (fun c_340 => ?_)
                                                                          · skip
                                                                            exact absurd c_340 (by decide)
                                                                          · skip
                                                                            refine lv_iload_n hx hb dX12_feed_53 rfl (lv_at hl 5 rfl) ?_
                                                                            refine lv_goto (tgt := 71) hx hb dX12_feed_54 (by decide) ?_
                                                                            refine lv_istore (lv' := [(7, .int p3), (6, .int 11), (0, .ref h0), (1, .int p1), (2, .int p2), (3, .int p3), (4, .int p4), (5, .int p5)]) hx hb dX12_feed_71 hl (by decide) rfl (fun ls hl => ?_)
                                                                            refine lv_aload_n hx hb dX12_feed_73 rfl (lv_at hl 2 rfl) ?_
                                                                            refine va_get (D := D) (ci := 11) (v := .ref h1) (C := RX12) (T := TX12) (N := 50) hx hb hts inw_X12_feed_X12 hown hK hP 0 rfl rfl 0 (by decide) (hts (.fieldLink RX12 61 "EarTableModel" "tape" "[B") (by decide +kernel)) (fun _ h9 => h9) rfl dX12_feed_74 ?_
                                                                            refine lv_aload_n hx hb dX12_feed_77 rfl (lv_at hl 2 rfl) ?_
                                                                            refine va_get (D := D) (ci := 11) (v := .int 0) (C := RX12) (T := TX12) (N := 50) hx hb hts inw_X12_feed_X12 hown hK hP 0 rfl rfl 2 (by decide) (hts (.fieldLink RX12 58 "EarTableModel" "taped" "I") (by decide +kernel)) (fun _ h9 => h9) rfl dX12_feed_78 ?_
                                                                            refine lv_iload hx hb dX12_feed_81 (lv_at hl 1 rfl) ?_
                                                                            refine lv_iadd hx hb dX12_feed_83 ?_
                                                                            refine kn_top (y := 11) (by decide) ?_
                                                                            refine lv_iload hx hb dX12_feed_84 (lv_at hl 0 rfl) ?_
                                                                            refine lv_bipush (v := 24) hx hb dX12_feed_86 (by decide) ?_
                                                                            refine lv_bipush (v := 8) hx hb dX12_feed_88 (by decide) ?_
                                                                            refine lv_iload hx hb dX12_feed_90 (lv_at hl 1 rfl) ?_
                                                                            refine lv_iconst (v := 3) hx hb dX12_feed_92 (by decide) ?_
                                                                            refine lv_iand hx hb dX12_feed_93 ?_
                                                                            refine kn_top (y := 3) (by decide) ?_
                                                                            refine lv_imul hx hb dX12_feed_94 ?_
                                                                            refine kn_top (y := 24) (by decide) ?_
                                                                            refine lv_isub hx hb dX12_feed_95 ?_
                                                                            refine kn_top (y := 0) (by decide) ?_
                                                                            refine lv_ishr hx hb dX12_feed_96 ?_
                                                                            refine lv_topi (fun z_341 _ => ?_)
                                                                            refine lv_i2b hx hb dX12_feed_97 rfl ?_
                                                                            refine lv_topi (fun z_342 _ => ?_)
                                                                            refine kn_bast hx hb hK hP hD hS 1 3 rfl rfl (kn_in (by decide)) dX12_feed_98 (fun f_343 H locs hP hD hS => ?_)
                                                                            have hP : va_P D vwCl [(h0, .inr (11, [.ref h1, v0, .int 0, v1, v2, v3, v4, v5, v6, v7, v8, v9, v10, v11, v12, v13, v14, v15, v16, v17, v18, v19, v20, v21, v22, v23, v24, v25, v26, v27, v28, v29, v30, v31, v32, v33, v34, v35, v36, v37, v38, v39, v40, v41, v42, v43, v44, v45, v46, v47])), (h1, .inl (cB, 1620, .inl f_343))] H := hP
                                                                            have hD : va_D A [(h0, .inr (11, [.ref h1, v0, .int 0, v1, v2, v3, v4, v5, v6, v7, v8, v9, v10, v11, v12, v13, v14, v15, v16, v17, v18, v19, v20, v21, v22, v23, v24, v25, v26, v27, v28, v29, v30, v31, v32, v33, v34, v35, v36, v37, v38, v39, v40, v41, v42, v43, v44, v45, v46, v47])), (h1, .inl (cB, 1620, .inl f_343))] := hD
                                                                            refine lv_iinc (v := 12) (lv' := [(6, .int 12), (7, .int p3), (0, .ref h0), (1, .int p1), (2, .int p2), (3, .int p3), (4, .int p4), (5, .int p5)]) hx hb dX12_feed_99 hl (k := 1) rfl (by decide) (by decide) rfl (fun ls hl => ?_)
                                                                            refine lv_goto (tgt := 18) hx hb dX12_feed_102 (by decide) ?_
                                                                            refine lv_iload hx hb dX12_feed_18 (lv_at hl 0 rfl) ?_
                                                                            refine lv_bipush (v := 20) hx hb dX12_feed_20 (by decide) ?_
                                                                            refine lv_icmp_ge (tgt := 105) hx hb dX12_feed_22 (by decide) (fun c_344 => ?_) (fun c_344 => ?_)
                                                                            · skip
                                                                              exact absurd c_344 (by decide)
                                                                            · skip
                                                                              refine lv_iload hx hb dX12_feed_25 (lv_at hl 0 rfl) ?_
                                                                              refine lv_iconst (v := 4) hx hb dX12_feed_27 (by decide) ?_
                                                                              refine lv_icmp_ge (tgt := 35) hx hb dX12_feed_28 (by decide) (fun c_345 => ?_) (fun c_345 => ?_)
                                                                              · skip
                                                                                refine lv_iload hx hb dX12_feed_35 (lv_at hl 0 rfl) ?_
                                                                                refine lv_bipush (v := 8) hx hb dX12_feed_37 (by decide) ?_
                                                                                refine lv_icmp_ge (tgt := 46) hx hb dX12_feed_39 (by decide) (fun c_346 => ?_) (fun c_346 => ?_)
                                                                                · skip
                                                                                  refine lv_iload hx hb dX12_feed_46 (lv_at hl 0 rfl) ?_
                                                                                  refine lv_bipush (v := 12) hx hb dX12_feed_48 (by decide) ?_
                                                                                  refine lv_icmp_ge (tgt := 57) hx hb dX12_feed_50 (by decide) (fun c_347 => ?_) (fun c_347 => ?_)
                                                                                  · skip
                                                                                    refine lv_iload hx hb dX12_feed_57 (lv_at hl 0 rfl) ?_
                                                                                    refine lv_bipush (v := 16) hx hb dX12_feed_59 (by decide) ?_
                                                                                    refine lv_icmp_ge (tgt := 69) hx hb dX12_feed_61 (by decide) (fun c_348 => ?_) (fun c_348 => ?_)
                                                                                    · skip
                                                                                      exact absurd c_348 (by decide)
                                                                                    · skip
                                                                                      refine lv_iload hx hb dX12_feed_64 (lv_at hl 6 rfl) ?_
                                                                                      refine lv_goto (tgt := 71) hx hb dX12_feed_66 (by decide) ?_
                                                                                      refine lv_istore (lv' := [(7, .int p4), (6, .int 12), (0, .ref h0), (1, .int p1), (2, .int p2), (3, .int p3), (4, .int p4), (5, .int p5)]) hx hb dX12_feed_71 hl (by decide) rfl (fun ls hl => ?_)
                                                                                      refine lv_aload_n hx hb dX12_feed_73 rfl (lv_at hl 2 rfl) ?_
                                                                                      refine va_get (D := D) (ci := 11) (v := .ref h1) (C := RX12) (T := TX12) (N := 50) hx hb hts inw_X12_feed_X12 hown hK hP 0 rfl rfl 0 (by decide) (hts (.fieldLink RX12 61 "EarTableModel" "tape" "[B") (by decide +kernel)) (fun _ h9 => h9) rfl dX12_feed_74 ?_
                                                                                      refine lv_aload_n hx hb dX12_feed_77 rfl (lv_at hl 2 rfl) ?_
                                                                                      refine va_get (D := D) (ci := 11) (v := .int 0) (C := RX12) (T := TX12) (N := 50) hx hb hts inw_X12_feed_X12 hown hK hP 0 rfl rfl 2 (by decide) (hts (.fieldLink RX12 58 "EarTableModel" "taped" "I") (by decide +kernel)) (fun _ h9 => h9) rfl dX12_feed_78 ?_
                                                                                      refine lv_iload hx hb dX12_feed_81 (lv_at hl 1 rfl) ?_
                                                                                      refine lv_iadd hx hb dX12_feed_83 ?_
                                                                                      refine kn_top (y := 12) (by decide) ?_
                                                                                      refine lv_iload hx hb dX12_feed_84 (lv_at hl 0 rfl) ?_
                                                                                      refine lv_bipush (v := 24) hx hb dX12_feed_86 (by decide) ?_
                                                                                      refine lv_bipush (v := 8) hx hb dX12_feed_88 (by decide) ?_
                                                                                      refine lv_iload hx hb dX12_feed_90 (lv_at hl 1 rfl) ?_
                                                                                      refine lv_iconst (v := 3) hx hb dX12_feed_92 (by decide) ?_
                                                                                      refine lv_iand hx hb dX12_feed_93 ?_
                                                                                      refine kn_top (y := 0) (by decide) ?_
                                                                                      refine lv_imul hx hb dX12_feed_94 ?_
                                                                                      refine kn_top (y := 0) (by decide) ?_
                                                                                      refine lv_isub hx hb dX12_feed_95 ?_
                                                                                      refine kn_top (y := 24) (by decide) ?_
                                                                                      refine lv_ishr hx hb dX12_feed_96 ?_
                                                                                      refine lv_topi (fun z_349 _ => ?_)
                                                                                      refine lv_i2b hx hb dX12_feed_97 rfl ?_
                                                                                      refine lv_topi (fun z_350 _ => ?_)
                                                                                      refine kn_bast hx hb hK hP hD hS 1 3 rfl rfl (kn_in (by decide)) dX12_feed_98 (fun f_351 H locs hP hD hS => ?_)
                                                                                      have hP : va_P D vwCl [(h0, .inr (11, [.ref h1, v0, .int 0, v1, v2, v3, v4, v5, v6, v7, v8, v9, v10, v11, v12, v13, v14, v15, v16, v17, v18, v19, v20, v21, v22, v23, v24, v25, v26, v27, v28, v29, v30, v31, v32, v33, v34, v35, v36, v37, v38, v39, v40, v41, v42, v43, v44, v45, v46, v47])), (h1, .inl (cB, 1620, .inl f_351))] H := hP
                                                                                      have hD : va_D A [(h0, .inr (11, [.ref h1, v0, .int 0, v1, v2, v3, v4, v5, v6, v7, v8, v9, v10, v11, v12, v13, v14, v15, v16, v17, v18, v19, v20, v21, v22, v23, v24, v25, v26, v27, v28, v29, v30, v31, v32, v33, v34, v35, v36, v37, v38, v39, v40, v41, v42, v43, v44, v45, v46, v47])), (h1, .inl (cB, 1620, .inl f_351))] := hD
                                                                                      refine lv_iinc (v := 13) (lv' := [(6, .int 13), (7, .int p4), (0, .ref h0), (1, .int p1), (2, .int p2), (3, .int p3), (4, .int p4), (5, .int p5)]) hx hb dX12_feed_99 hl (k := 1) rfl (by decide) (by decide) rfl (fun ls hl => ?_)
                                                                                      refine lv_goto (tgt := 18) hx hb dX12_feed_102 (by decide) ?_
                                                                                      refine lv_iload hx hb dX12_feed_18 (lv_at hl 0 rfl) ?_
                                                                                      refine lv_bipush (v := 20) hx hb dX12_feed_20 (by decide) ?_
                                                                                      refine lv_icmp_ge (tgt := 105) hx hb dX12_feed_22 (by decide) (fun c_352 => ?_) (fun c_352 => ?_)
                                                                                      · skip
                                                                                        exact absurd c_352 (by decide)
                                                                                      · skip
                                                                                        refine lv_iload hx hb dX12_feed_25 (lv_at hl 0 rfl) ?_
                                                                                        refine lv_iconst (v := 4) hx hb dX12_feed_27 (by decide) ?_
                                                                                        refine lv_icmp_ge (tgt := 35) hx hb dX12_feed_28 (by decide) (fun c_353 => ?_) (fun c_353 => ?_)
                                                                                        · skip
                                                                                          refine lv_iload hx hb dX12_feed_35 (lv_at hl 0 rfl) ?_
                                                                                          refine lv_bipush (v := 8) hx hb dX12_feed_37 (by decide) ?_
                                                                                          refine lv_icmp_ge (tgt := 46) hx hb dX12_feed_39 (by decide) (fun c_354 => ?_) (fun c_354 => ?_)
                                                                                          · skip
                                                                                            refine lv_iload hx hb dX12_feed_46 (lv_at hl 0 rfl) ?_
                                                                                            refine lv_bipush (v := 12) hx hb dX12_feed_48 (by decide) ?_
                                                                                            refine lv_icmp_ge (tgt := 57) hx hb dX12_feed_50 (by decide) (fun c_355 => ?_) (fun c_355 => ?_)
                                                                                            · skip
                                                                                              refine lv_iload hx hb dX12_feed_57 (lv_at hl 0 rfl) ?_
                                                                                              refine lv_bipush (v := 16) hx hb dX12_feed_59 (by decide) ?_
                                                                                              refine lv_icmp_ge (tgt := 69) hx hb dX12_feed_61 (by decide) (fun c_356 => ?_) (fun c_356 => ?_)
                                                                                              · skip
                                                                                                exact absurd c_356 (by decide)
                                                                                              · skip
                                                                                                refine lv_iload hx hb dX12_feed_64 (lv_at hl 6 rfl) ?_
                                                                                                refine lv_goto (tgt := 71) hx hb dX12_feed_66 (by decide) ?_
                                                                                                refine lv_istore (lv' := [(7, .int p4), (6, .int 13), (0, .ref h0), (1, .int p1), (2, .int p2), (3, .int p3), (4, .int p4), (5, .int p5)]) hx hb dX12_feed_71 hl (by decide) rfl (fun ls hl => ?_)
                                                                                                refine lv_aload_n hx hb dX12_feed_73 rfl (lv_at hl 2 rfl) ?_
                                                                                                refine va_get (D := D) (ci := 11) (v := .ref h1) (C := RX12) (T := TX12) (N := 50) hx hb hts inw_X12_feed_X12 hown hK hP 0 rfl rfl 0 (by decide) (hts (.fieldLink RX12 61 "EarTableModel" "tape" "[B") (by decide +kernel)) (fun _ h9 => h9) rfl dX12_feed_74 ?_
                                                                                                refine lv_aload_n hx hb dX12_feed_77 rfl (lv_at hl 2 rfl) ?_
                                                                                                refine va_get (D := D) (ci := 11) (v := .int 0) (C := RX12) (T := TX12) (N := 50) hx hb hts inw_X12_feed_X12 hown hK hP 0 rfl rfl 2 (by decide) (hts (.fieldLink RX12 58 "EarTableModel" "taped" "I") (by decide +kernel)) (fun _ h9 => h9) rfl dX12_feed_78 ?_
                                                                                                refine lv_iload hx hb dX12_feed_81 (lv_at hl 1 rfl) ?_
                                                                                                refine lv_iadd hx hb dX12_feed_83 ?_
                                                                                                refine kn_top (y := 13) (by decide) ?_
                                                                                                refine lv_iload hx hb dX12_feed_84 (lv_at hl 0 rfl) ?_
                                                                                                refine lv_bipush (v := 24) hx hb dX12_feed_86 (by decide) ?_
                                                                                                refine lv_bipush (v := 8) hx hb dX12_feed_88 (by decide) ?_
                                                                                                refine lv_iload hx hb dX12_feed_90 (lv_at hl 1 rfl) ?_
                                                                                                refine lv_iconst (v := 3) hx hb dX12_feed_92 (by decide) ?_
                                                                                                refine lv_iand hx hb dX12_feed_93 ?_
                                                                                                refine kn_top (y := 1) (by decide) ?_
                                                                                                refine lv_imul hx hb dX12_feed_94 ?_
                                                                                                refine kn_top (y := 8) (by decide) ?_
                                                                                                refine lv_isub hx hb dX12_feed_95 ?_
                                                                                                refine kn_top (y := 16) (by decide) ?_
                                                                                                refine lv_ishr hx hb dX12_feed_96 ?_
                                                                                                refine lv_topi (fun z_357 _ => ?_)
                                                                                                refine lv_i2b hx hb dX12_feed_97 rfl ?_
                                                                                                refine lv_topi (fun z_358 _ => ?_)
                                                                                                refine kn_bast hx hb hK hP hD hS 1 3 rfl rfl (kn_in (by decide)) dX12_feed_98 (fun f_359 H locs hP hD hS => ?_)
                                                                                                have hP : va_P D vwCl [(h0, .inr (11, [.ref h1, v0, .int 0, v1, v2, v3, v4, v5, v6, v7, v8, v9, v10, v11, v12, v13, v14, v15, v16, v17, v18, v19, v20, v21, v22, v23, v24, v25, v26, v27, v28, v29, v30, v31, v32, v33, v34, v35, v36, v37, v38, v39, v40, v41, v42, v43, v44, v45, v46, v47])), (h1, .inl (cB, 1620, .inl f_359))] H := hP
                                                                                                have hD : va_D A [(h0, .inr (11, [.ref h1, v0, .int 0, v1, v2, v3, v4, v5, v6, v7, v8, v9, v10, v11, v12, v13, v14, v15, v16, v17, v18, v19, v20, v21, v22, v23, v24, v25, v26, v27, v28, v29, v30, v31, v32, v33, v34, v35, v36, v37, v38, v39, v40, v41, v42, v43, v44, v45, v46, v47])), (h1, .inl (cB, 1620, .inl f_359))] := hD
                                                                                                refine lv_iinc (v := 14) (lv' := [(6, .int 14), (7, .int p4), (0, .ref h0), (1, .int p1), (2, .int p2), (3, .int p3), (4, .int p4), (5, .int p5)]) hx hb dX12_feed_99 hl (k := 1) rfl (by decide) (by decide) rfl (fun ls hl => ?_)
                                                                                                refine lv_goto (tgt := 18) hx hb dX12_feed_102 (by decide) ?_
                                                                                                refine lv_iload hx hb dX12_feed_18 (lv_at hl 0 rfl) ?_
                                                                                                refine lv_bipush (v := 20) hx hb dX12_feed_20 (by decide) ?_
                                                                                                refine lv_icmp_ge (tgt := 105) hx hb dX12_feed_22 (by decide) (fun c_360 => ?_) (fun c_360 => ?_)
                                                                                                · skip
                                                                                                  exact absurd c_360 (by decide)
                                                                                                · skip
                                                                                                  refine lv_iload hx hb dX12_feed_25 (lv_at hl 0 rfl) ?_
                                                                                                  refine lv_iconst (v := 4) hx hb dX12_feed_27 (by decide) ?_
                                                                                                  refine lv_icmp_ge (tgt := 35) hx hb dX12_feed_28 (by decide) (fun c_361 => ?_) (fun c_361 => ?_)
                                                                                                  · skip
                                                                                                    refine lv_iload hx hb dX12_feed_35 (lv_at hl 0 rfl) ?_
                                                                                                    refine lv_bipush (v := 8) hx hb dX12_feed_37 (by decide) ?_
                                                                                                    refine lv_icmp_ge (tgt := 46) hx hb dX12_feed_39 (by decide) (fun c_362 => ?_) (fun c_362 => ?_)
                                                                                                    · skip
                                                                                                      refine lv_iload hx hb dX12_feed_46 (lv_at hl 0 rfl) ?_
                                                                                                      refine lv_bipush (v := 12) hx hb dX12_feed_48 (by decide) ?_
                                                                                                      refine lv_icmp_ge (tgt := 57) hx hb dX12_feed_50 (by decide) (fun c_363 => ?_) (fun c_363 => ?_)
                                                                                                      · skip
                                                                                                        refine lv_iload hx hb dX12_feed_57 (lv_at hl 0 rfl) ?_
                                                                                                        refine lv_bipush (v := 16) hx hb dX12_feed_59 (by decide) ?_
                                                                                                        refine lv_icmp_ge (tgt := 69) hx hb dX12_feed_61 (by decide) (fun c_364 => ?_) (fun c_364 => ?_)
                                                                                                        · skip
                                                                                                          exact absurd c_364 (by decide)
                                                                                                        · skip
                                                                                                          refine lv_iload hx hb dX12_feed_64 (lv_at hl 6 rfl) ?_
                                                                                                          refine lv_goto (tgt := 71) hx hb dX12_feed_66 (by decide) ?_
                                                                                                          refine lv_istore (lv' := [(7, .int p4), (6, .int 14), (0, .ref h0), (1, .int p1), (2, .int p2), (3, .int p3), (4, .int p4), (5, .int p5)]) hx hb dX12_feed_71 hl (by decide) rfl (fun ls hl => ?_)
                                                                                                          refine lv_aload_n hx hb dX12_feed_73 rfl (lv_at hl 2 rfl) ?_
                                                                                                          refine va_get (D := D) (ci := 11) (v := .ref h1) (C := RX12) (T := TX12) (N := 50) hx hb hts inw_X12_feed_X12 hown hK hP 0 rfl rfl 0 (by decide) (hts (.fieldLink RX12 61 "EarTableModel" "tape" "[B") (by decide +kernel)) (fun _ h9 => h9) rfl dX12_feed_74 ?_
                                                                                                          refine lv_aload_n hx hb dX12_feed_77 rfl (lv_at hl 2 rfl) ?_
                                                                                                          refine va_get (D := D) (ci := 11) (v := .int 0) (C := RX12) (T := TX12) (N := 50) hx hb hts inw_X12_feed_X12 hown hK hP 0 rfl rfl 2 (by decide) (hts (.fieldLink RX12 58 "EarTableModel" "taped" "I") (by decide +kernel)) (fun _ h9 => h9) rfl dX12_feed_78 ?_
                                                                                                          refine lv_iload hx hb dX12_feed_81 (lv_at hl 1 rfl) ?_
                                                                                                          refine lv_iadd hx hb dX12_feed_83 ?_
                                                                                                          refine kn_top (y := 14) (by decide) ?_
                                                                                                          refine lv_iload hx hb dX12_feed_84 (lv_at hl 0 rfl) ?_
                                                                                                          refine lv_bipush (v := 24) hx hb dX12_feed_86 (by decide) ?_
                                                                                                          refine lv_bipush (v := 8) hx hb dX12_feed_88 (by decide) ?_
                                                                                                          refine lv_iload hx hb dX12_feed_90 (lv_at hl 1 rfl) ?_
                                                                                                          refine lv_iconst (v := 3) hx hb dX12_feed_92 (by decide) ?_
                                                                                                          refine lv_iand hx hb dX12_feed_93 ?_
                                                                                                          refine kn_top (y := 2) (by decide) ?_
                                                                                                          refine lv_imul hx hb dX12_feed_94 ?_
                                                                                                          refine kn_top (y := 16) (by decide) ?_
                                                                                                          refine lv_isub hx hb dX12_feed_95 ?_
                                                                                                          refine kn_top (y := 8) (by decide) ?_
                                                                                                          refine lv_ishr hx hb dX12_feed_96 ?_
                                                                                                          refine lv_topi (fun z_365 _ => ?_)
                                                                                                          refine lv_i2b hx hb dX12_feed_97 rfl ?_
                                                                                                          refine lv_topi (fun z_366 _ => ?_)
                                                                                                          refine kn_bast hx hb hK hP hD hS 1 3 rfl rfl (kn_in (by decide)) dX12_feed_98 (fun f_367 H locs hP hD hS => ?_)
                                                                                                          have hP : va_P D vwCl [(h0, .inr (11, [.ref h1, v0, .int 0, v1, v2, v3, v4, v5, v6, v7, v8, v9, v10, v11, v12, v13, v14, v15, v16, v17, v18, v19, v20, v21, v22, v23, v24, v25, v26, v27, v28, v29, v30, v31, v32, v33, v34, v35, v36, v37, v38, v39, v40, v41, v42, v43, v44, v45, v46, v47])), (h1, .inl (cB, 1620, .inl f_367))] H := hP
                                                                                                          have hD : va_D A [(h0, .inr (11, [.ref h1, v0, .int 0, v1, v2, v3, v4, v5, v6, v7, v8, v9, v10, v11, v12, v13, v14, v15, v16, v17, v18, v19, v20, v21, v22, v23, v24, v25, v26, v27, v28, v29, v30, v31, v32, v33, v34, v35, v36, v37, v38, v39, v40, v41, v42, v43, v44, v45, v46, v47])), (h1, .inl (cB, 1620, .inl f_367))] := hD
                                                                                                          refine lv_iinc (v := 15) (lv' := [(6, .int 15), (7, .int p4), (0, .ref h0), (1, .int p1), (2, .int p2), (3, .int p3), (4, .int p4), (5, .int p5)]) hx hb dX12_feed_99 hl (k := 1) rfl (by decide) (by decide) rfl (fun ls hl => ?_)
                                                                                                          refine lv_goto (tgt := 18) hx hb dX12_feed_102 (by decide) ?_
                                                                                                          refine lv_iload hx hb dX12_feed_18 (lv_at hl 0 rfl) ?_
                                                                                                          refine lv_bipush (v := 20) hx hb dX12_feed_20 (by decide) ?_
                                                                                                          refine lv_icmp_ge (tgt := 105) hx hb dX12_feed_22 (by decide) (fun c_368 => ?_) (fun c_368 => ?_)
                                                                                                          · skip
                                                                                                            exact absurd c_368 (by decide)
                                                                                                          · skip
                                                                                                            refine lv_iload hx hb dX12_feed_25 (lv_at hl 0 rfl) ?_
                                                                                                            refine lv_iconst (v := 4) hx hb dX12_feed_27 (by decide) ?_
                                                                                                            refine lv_icmp_ge (tgt := 35) hx hb dX12_feed_28 (by decide) (fun c_369 => ?_) (fun c_369 => ?_)
                                                                                                            · skip
                                                                                                              refine lv_iload hx hb dX12_feed_35 (lv_at hl 0 rfl) ?_
                                                                                                              refine lv_bipush (v := 8) hx hb dX12_feed_37 (by decide) ?_
                                                                                                              refine lv_icmp_ge (tgt := 46) hx hb dX12_feed_39 (by decide) (fun c_370 => ?_) (fun c_370 => ?_)
                                                                                                              · skip
                                                                                                                refine lv_iload hx hb dX12_feed_46 (lv_at hl 0 rfl) ?_
                                                                                                                refine lv_bipush (v := 12) hx hb dX12_feed_48 (by decide) ?_
                                                                                                                refine lv_icmp_ge (tgt := 57) hx hb dX12_feed_50 (by decide) (fun c_371 => ?_) (fun c_371 => ?_)
                                                                                                                · skip
                                                                                                                  refine lv_iload hx hb dX12_feed_57 (lv_at hl 0 rfl) ?_
                                                                                                                  refine lv_bipush (v := 16) hx hb dX12_feed_59 (by decide) ?_
                                                                                                                  refine lv_icmp_ge (tgt := 69) hx hb dX12_feed_61 (by decide) (fun c_372 => ?_) (fun c_372 => ?_)
                                                                                                                  · skip
                                                                                                                    exact absurd c_372 (by decide)
                                                                                                                  · skip
                                                                                                                    refine lv_iload hx hb dX12_feed_64 (lv_at hl 6 rfl) ?_
                                                                                                                    refine lv_goto (tgt := 71) hx hb dX12_feed_66 (by decide) ?_
                                                                                                                    refine lv_istore (lv' := [(7, .int p4), (6, .int 15), (0, .ref h0), (1, .int p1), (2, .int p2), (3, .int p3), (4, .int p4), (5, .int p5)]) hx hb dX12_feed_71 hl (by decide) rfl (fun ls hl => ?_)
                                                                                                                    refine lv_aload_n hx hb dX12_feed_73 rfl (lv_at hl 2 rfl) ?_
                                                                                                                    refine va_get (D := D) (ci := 11) (v := .ref h1) (C := RX12) (T := TX12) (N := 50) hx hb hts inw_X12_feed_X12 hown hK hP 0 rfl rfl 0 (by decide) (hts (.fieldLink RX12 61 "EarTableModel" "tape" "[B") (by decide +kernel)) (fun _ h9 => h9) rfl dX12_feed_74 ?_
                                                                                                                    refine lv_aload_n hx hb dX12_feed_77 rfl (lv_at hl 2 rfl) ?_
                                                                                                                    refine va_get (D := D) (ci := 11) (v := .int 0) (C := RX12) (T := TX12) (N := 50) hx hb hts inw_X12_feed_X12 hown hK hP 0 rfl rfl 2 (by decide) (hts (.fieldLink RX12 58 "EarTableModel" "taped" "I") (by decide +kernel)) (fun _ h9 => h9) rfl dX12_feed_78 ?_
                                                                                                                    refine lv_iload hx hb dX12_feed_81 (lv_at hl 1 rfl) ?_
                                                                                                                    refine lv_iadd hx hb dX12_feed_83 ?_
                                                                                                                    refine kn_top (y := 15) (by decide) ?_
                                                                                                                    refine lv_iload hx hb dX12_feed_84 (lv_at hl 0 rfl) ?_
                                                                                                                    refine lv_bipush (v := 24) hx hb dX12_feed_86 (by decide) ?_
                                                                                                                    refine lv_bipush (v := 8) hx hb dX12_feed_88 (by decide) ?_
                                                                                                                    refine lv_iload hx hb dX12_feed_90 (lv_at hl 1 rfl) ?_
                                                                                                                    refine lv_iconst (v := 3) hx hb dX12_feed_92 (by decide) ?_
                                                                                                                    refine lv_iand hx hb dX12_feed_93 ?_
                                                                                                                    refine kn_top (y := 3) (by decide) ?_
                                                                                                                    refine lv_imul hx hb dX12_feed_94 ?_
                                                                                                                    refine kn_top (y := 24) (by decide) ?_
                                                                                                                    refine lv_isub hx hb dX12_feed_95 ?_
                                                                                                                    refine kn_top (y := 0) (by decide) ?_
                                                                                                                    refine lv_ishr hx hb dX12_feed_96 ?_
                                                                                                                    refine lv_topi (fun z_373 _ => ?_)
                                                                                                                    refine lv_i2b hx hb dX12_feed_97 rfl ?_
                                                                                                                    refine lv_topi (fun z_374 _ => ?_)
                                                                                                                    refine kn_bast hx hb hK hP hD hS 1 3 rfl rfl (kn_in (by decide)) dX12_feed_98 (fun f_375 H locs hP hD hS => ?_)
                                                                                                                    have hP : va_P D vwCl [(h0, .inr (11, [.ref h1, v0, .int 0, v1, v2, v3, v4, v5, v6, v7, v8, v9, v10, v11, v12, v13, v14, v15, v16, v17, v18, v19, v20, v21, v22, v23, v24, v25, v26, v27, v28, v29, v30, v31, v32, v33, v34, v35, v36, v37, v38, v39, v40, v41, v42, v43, v44, v45, v46, v47])), (h1, .inl (cB, 1620, .inl f_375))] H := hP
                                                                                                                    have hD : va_D A [(h0, .inr (11, [.ref h1, v0, .int 0, v1, v2, v3, v4, v5, v6, v7, v8, v9, v10, v11, v12, v13, v14, v15, v16, v17, v18, v19, v20, v21, v22, v23, v24, v25, v26, v27, v28, v29, v30, v31, v32, v33, v34, v35, v36, v37, v38, v39, v40, v41, v42, v43, v44, v45, v46, v47])), (h1, .inl (cB, 1620, .inl f_375))] := hD
                                                                                                                    refine lv_iinc (v := 16) (lv' := [(6, .int 16), (7, .int p4), (0, .ref h0), (1, .int p1), (2, .int p2), (3, .int p3), (4, .int p4), (5, .int p5)]) hx hb dX12_feed_99 hl (k := 1) rfl (by decide) (by decide) rfl (fun ls hl => ?_)
                                                                                                                    refine lv_goto (tgt := 18) hx hb dX12_feed_102 (by decide) ?_
                                                                                                                    refine lv_iload hx hb dX12_feed_18 (lv_at hl 0 rfl) ?_
                                                                                                                    refine lv_bipush (v := 20) hx hb dX12_feed_20 (by decide) ?_
                                                                                                                    refine lv_icmp_ge (tgt := 105) hx hb dX12_feed_22 (by decide) (fun c_376 => ?_) (fun c_376 => ?_)
                                                                                                                    · skip
                                                                                                                      exact absurd c_376 (by decide)
                                                                                                                    · skip
                                                                                                                      refine lv_iload hx hb dX12_feed_25 (lv_at hl 0 rfl) ?_
                                                                                                                      refine lv_iconst (v := 4) hx hb dX12_feed_27 (by decide) ?_
                                                                                                                      refine lv_icmp_ge (tgt := 35) hx hb dX12_feed_28 (by decide) (fun c_377 => ?_) (fun c_377 => ?_)
                                                                                                                      · skip
                                                                                                                        refine lv_iload hx hb dX12_feed_35 (lv_at hl 0 rfl) ?_
                                                                                                                        refine lv_bipush (v := 8) hx hb dX12_feed_37 (by decide) ?_
                                                                                                                        refine lv_icmp_ge (tgt := 46) hx hb dX12_feed_39 (by decide) (fun c_378 => ?_) (fun c_378 => ?_)
                                                                                                                        · skip
                                                                                                                          refine lv_iload hx hb dX12_feed_46 (lv_at hl 0 rfl) ?_
                                                                                                                          refine lv_bipush (v := 12) hx hb dX12_feed_48 (by decide) ?_
                                                                                                                          refine lv_icmp_ge (tgt := 57) hx hb dX12_feed_50 (by decide) (fun c_379 => ?_) (fun c_379 => ?_)
                                                                                                                          · skip
                                                                                                                            refine lv_iload hx hb dX12_feed_57 (lv_at hl 0 rfl) ?_
                                                                                                                            refine lv_bipush (v := 16) hx hb dX12_feed_59 (by decide) ?_
                                                                                                                            refine lv_icmp_ge (tgt := 69) hx hb dX12_feed_61 (by decide) (fun c_380 => ?_) (fun c_380 => ?_)
                                                                                                                            · skip
                                                                                                                              refine lv_iload hx hb dX12_feed_69 (lv_at hl 7 rfl) ?_
                                                                                                                              refine lv_istore (lv' := [(7, .int p5), (6, .int 16), (0, .ref h0), (1, .int p1), (2, .int p2), (3, .int p3), (4, .int p4), (5, .int p5)]) hx hb dX12_feed_71 hl (by decide) rfl (fun ls hl => ?_)
                                                                                                                              refine lv_aload_n hx hb dX12_feed_73 rfl (lv_at hl 2 rfl) ?_
                                                                                                                              refine va_get (D := D) (ci := 11) (v := .ref h1) (C := RX12) (T := TX12) (N := 50) hx hb hts inw_X12_feed_X12 hown hK hP 0 rfl rfl 0 (by decide) (hts (.fieldLink RX12 61 "EarTableModel" "tape" "[B") (by decide +kernel)) (fun _ h9 => h9) rfl dX12_feed_74 ?_
                                                                                                                              refine lv_aload_n hx hb dX12_feed_77 rfl (lv_at hl 2 rfl) ?_
                                                                                                                              refine va_get (D := D) (ci := 11) (v := .int 0) (C := RX12) (T := TX12) (N := 50) hx hb hts inw_X12_feed_X12 hown hK hP 0 rfl rfl 2 (by decide) (hts (.fieldLink RX12 58 "EarTableModel" "taped" "I") (by decide +kernel)) (fun _ h9 => h9) rfl dX12_feed_78 ?_
                                                                                                                              refine lv_iload hx hb dX12_feed_81 (lv_at hl 1 rfl) ?_
                                                                                                                              refine lv_iadd hx hb dX12_feed_83 ?_
                                                                                                                              refine kn_top (y := 16) (by decide) ?_
                                                                                                                              refine lv_iload hx hb dX12_feed_84 (lv_at hl 0 rfl) ?_
                                                                                                                              refine lv_bipush (v := 24) hx hb dX12_feed_86 (by decide) ?_
                                                                                                                              refine lv_bipush (v := 8) hx hb dX12_feed_88 (by decide) ?_
                                                                                                                              refine lv_iload hx hb dX12_feed_90 (lv_at hl 1 rfl) ?_
                                                                                                                              refine lv_iconst (v := 3) hx hb dX12_feed_92 (by decide) ?_
                                                                                                                              refine lv_iand hx hb dX12_feed_93 ?_
                                                                                                                              refine kn_top (y := 0) (by decide) ?_
                                                                                                                              refine lv_imul hx hb dX12_feed_94 ?_
                                                                                                                              refine kn_top (y := 0) (by decide) ?_
                                                                                                                              refine lv_isub hx hb dX12_feed_95 ?_
                                                                                                                              refine kn_top (y := 24) (by decide) ?_
                                                                                                                              refine lv_ishr hx hb dX12_feed_96 ?_
                                                                                                                              refine lv_topi (fun z_381 _ => ?_)
                                                                                                                              refine lv_i2b hx hb dX12_feed_97 rfl ?_
                                                                                                                              refine lv_topi (fun z_382 _ => ?_)
                                                                                                                              refine kn_bast hx hb hK hP hD hS 1 3 rfl rfl (kn_in (by decide)) dX12_feed_98 (fun f_383 H locs hP hD hS => ?_)
                                                                                                                              have hP : va_P D vwCl [(h0, .inr (11, [.ref h1, v0, .int 0, v1, v2, v3, v4, v5, v6, v7, v8, v9, v10, v11, v12, v13, v14, v15, v16, v17, v18, v19, v20, v21, v22, v23, v24, v25, v26, v27, v28, v29, v30, v31, v32, v33, v34, v35, v36, v37, v38, v39, v40, v41, v42, v43, v44, v45, v46, v47])), (h1, .inl (cB, 1620, .inl f_383))] H := hP
                                                                                                                              have hD : va_D A [(h0, .inr (11, [.ref h1, v0, .int 0, v1, v2, v3, v4, v5, v6, v7, v8, v9, v10, v11, v12, v13, v14, v15, v16, v17, v18, v19, v20, v21, v22, v23, v24, v25, v26, v27, v28, v29, v30, v31, v32, v33, v34, v35, v36, v37, v38, v39, v40, v41, v42, v43, v44, v45, v46, v47])), (h1, .inl (cB, 1620, .inl f_383))] := hD
                                                                                                                              refine lv_iinc (v := 17) (lv' := [(6, .int 17), (7, .int p5), (0, .ref h0), (1, .int p1), (2, .int p2), (3, .int p3), (4, .int p4), (5, .int p5)]) hx hb dX12_feed_99 hl (k := 1) rfl (by decide) (by decide) rfl (fun ls hl => ?_)
                                                                                                                              refine lv_goto (tgt := 18) hx hb dX12_feed_102 (by decide) ?_
                                                                                                                              refine lv_iload hx hb dX12_feed_18 (lv_at hl 0 rfl) ?_
                                                                                                                              refine lv_bipush (v := 20) hx hb dX12_feed_20 (by decide) ?_
                                                                                                                              refine lv_icmp_ge (tgt := 105) hx hb dX12_feed_22 (by decide) (fun c_384 => ?_) (fun c_384 => ?_)
                                                                                                                              · skip
                                                                                                                                exact absurd c_384 (by decide)
                                                                                                                              · skip
                                                                                                                                refine lv_iload hx hb dX12_feed_25 (lv_at hl 0 rfl) ?_
                                                                                                                                refine lv_iconst (v := 4) hx hb dX12_feed_27 (by decide) ?_
                                                                                                                                refine lv_icmp_ge (tgt := 35) hx hb dX12_feed_28 (by decide) (fun c_385 => ?_) (fun c_385 => ?_)
                                                                                                                                · skip
                                                                                                                                  refine lv_iload hx hb dX12_feed_35 (lv_at hl 0 rfl) ?_
                                                                                                                                  refine lv_bipush (v := 8) hx hb dX12_feed_37 (by decide) ?_
                                                                                                                                  refine lv_icmp_ge (tgt := 46) hx hb dX12_feed_39 (by decide) (fun c_386 => ?_) (fun c_386 => ?_)
                                                                                                                                  · skip
                                                                                                                                    refine lv_iload hx hb dX12_feed_46 (lv_at hl 0 rfl) ?_
                                                                                                                                    refine lv_bipush (v := 12) hx hb dX12_feed_48 (by decide) ?_
                                                                                                                                    refine lv_icmp_ge (tgt := 57) hx hb dX12_feed_50 (by decide) (fun c_387 => ?_) (fun c_387 => ?_)
                                                                                                                                    · skip
                                                                                                                                      refine lv_iload hx hb dX12_feed_57 (lv_at hl 0 rfl) ?_
                                                                                                                                      refine lv_bipush (v := 16) hx hb dX12_feed_59 (by decide) ?_
                                                                                                                                      refine lv_icmp_ge (tgt := 69) hx hb dX12_feed_61 (by decide) (fun c_388 => ?_) (fun c_388 => ?_)
                                                                                                                                      · skip
                                                                                                                                        refine lv_iload hx hb dX12_feed_69 (lv_at hl 7 rfl) ?_
                                                                                                                                        refine lv_istore (lv' := [(7, .int p5), (6, .int 17), (0, .ref h0), (1, .int p1), (2, .int p2), (3, .int p3), (4, .int p4), (5, .int p5)]) hx hb dX12_feed_71 hl (by decide) rfl (fun ls hl => ?_)
                                                                                                                                        refine lv_aload_n hx hb dX12_feed_73 rfl (lv_at hl 2 rfl) ?_
                                                                                                                                        refine va_get (D := D) (ci := 11) (v := .ref h1) (C := RX12) (T := TX12) (N := 50) hx hb hts inw_X12_feed_X12 hown hK hP 0 rfl rfl 0 (by decide) (hts (.fieldLink RX12 61 "EarTableModel" "tape" "[B") (by decide +kernel)) (fun _ h9 => h9) rfl dX12_feed_74 ?_
                                                                                                                                        refine lv_aload_n hx hb dX12_feed_77 rfl (lv_at hl 2 rfl) ?_
                                                                                                                                        refine va_get (D := D) (ci := 11) (v := .int 0) (C := RX12) (T := TX12) (N := 50) hx hb hts inw_X12_feed_X12 hown hK hP 0 rfl rfl 2 (by decide) (hts (.fieldLink RX12 58 "EarTableModel" "taped" "I") (by decide +kernel)) (fun _ h9 => h9) rfl dX12_feed_78 ?_
                                                                                                                                        refine lv_iload hx hb dX12_feed_81 (lv_at hl 1 rfl) ?_
                                                                                                                                        refine lv_iadd hx hb dX12_feed_83 ?_
                                                                                                                                        refine kn_top (y := 17) (by decide) ?_
                                                                                                                                        refine lv_iload hx hb dX12_feed_84 (lv_at hl 0 rfl) ?_
                                                                                                                                        refine lv_bipush (v := 24) hx hb dX12_feed_86 (by decide) ?_
                                                                                                                                        refine lv_bipush (v := 8) hx hb dX12_feed_88 (by decide) ?_
                                                                                                                                        refine lv_iload hx hb dX12_feed_90 (lv_at hl 1 rfl) ?_
                                                                                                                                        refine lv_iconst (v := 3) hx hb dX12_feed_92 (by decide) ?_
                                                                                                                                        refine lv_iand hx hb dX12_feed_93 ?_
                                                                                                                                        refine kn_top (y := 1) (by decide) ?_
                                                                                                                                        refine lv_imul hx hb dX12_feed_94 ?_
                                                                                                                                        refine kn_top (y := 8) (by decide) ?_
                                                                                                                                        refine lv_isub hx hb dX12_feed_95 ?_
                                                                                                                                        refine kn_top (y := 16) (by decide) ?_
                                                                                                                                        refine lv_ishr hx hb dX12_feed_96 ?_
                                                                                                                                        refine lv_topi (fun z_389 _ => ?_)
                                                                                                                                        refine lv_i2b hx hb dX12_feed_97 rfl ?_
                                                                                                                                        refine lv_topi (fun z_390 _ => ?_)
                                                                                                                                        refine kn_bast hx hb hK hP hD hS 1 3 rfl rfl (kn_in (by decide)) dX12_feed_98 (fun f_391 H locs hP hD hS => ?_)
                                                                                                                                        have hP : va_P D vwCl [(h0, .inr (11, [.ref h1, v0, .int 0, v1, v2, v3, v4, v5, v6, v7, v8, v9, v10, v11, v12, v13, v14, v15, v16, v17, v18, v19, v20, v21, v22, v23, v24, v25, v26, v27, v28, v29, v30, v31, v32, v33, v34, v35, v36, v37, v38, v39, v40, v41, v42, v43, v44, v45, v46, v47])), (h1, .inl (cB, 1620, .inl f_391))] H := hP
                                                                                                                                        have hD : va_D A [(h0, .inr (11, [.ref h1, v0, .int 0, v1, v2, v3, v4, v5, v6, v7, v8, v9, v10, v11, v12, v13, v14, v15, v16, v17, v18, v19, v20, v21, v22, v23, v24, v25, v26, v27, v28, v29, v30, v31, v32, v33, v34, v35, v36, v37, v38, v39, v40, v41, v42, v43, v44, v45, v46, v47])), (h1, .inl (cB, 1620, .inl f_391))] := hD
                                                                                                                                        refine lv_iinc (v := 18) (lv' := [(6, .int 18), (7, .int p5), (0, .ref h0), (1, .int p1), (2, .int p2), (3, .int p3), (4, .int p4), (5, .int p5)]) hx hb dX12_feed_99 hl (k := 1) rfl (by decide) (by decide) rfl (fun ls hl => ?_)
                                                                                                                                        refine lv_goto (tgt := 18) hx hb dX12_feed_102 (by decide) ?_
                                                                                                                                        refine lv_iload hx hb dX12_feed_18 (lv_at hl 0 rfl) ?_
                                                                                                                                        refine lv_bipush (v := 20) hx hb dX12_feed_20 (by decide) ?_
                                                                                                                                        refine lv_icmp_ge (tgt := 105) hx hb dX12_feed_22 (by decide) (fun c_392 => ?_) (fun c_392 => ?_)
                                                                                                                                        · skip
                                                                                                                                          exact absurd c_392 (by decide)
                                                                                                                                        · skip
                                                                                                                                          refine lv_iload hx hb dX12_feed_25 (lv_at hl 0 rfl) ?_
                                                                                                                                          refine lv_iconst (v := 4) hx hb dX12_feed_27 (by decide) ?_
                                                                                                                                          refine lv_icmp_ge (tgt := 35) hx hb dX12_feed_28 (by decide) (fun c_393 => ?_) (fun c_393 => ?_)
                                                                                                                                          · skip
                                                                                                                                            refine lv_iload hx hb dX12_feed_35 (lv_at hl 0 rfl) ?_
                                                                                                                                            refine lv_bipush (v := 8) hx hb dX12_feed_37 (by decide) ?_
                                                                                                                                            refine lv_icmp_ge (tgt := 46) hx hb dX12_feed_39 (by decide) (fun c_394 => ?_) (fun c_394 => ?_)
                                                                                                                                            · skip
                                                                                                                                              refine lv_iload hx hb dX12_feed_46 (lv_at hl 0 rfl) ?_
                                                                                                                                              refine lv_bipush (v := 12) hx hb dX12_feed_48 (by decide) ?_
                                                                                                                                              refine lv_icmp_ge (tgt := 57) hx hb dX12_feed_50 (by decide) (fun c_395 => ?_) (fun c_395 => ?_)
                                                                                                                                              · skip
                                                                                                                                                refine lv_iload hx hb dX12_feed_57 (lv_at hl 0 rfl) ?_
                                                                                                                                                refine lv_bipush (v := 16) hx hb dX12_feed_59 (by decide) ?_
                                                                                                                                                refine lv_icmp_ge (tgt := 69) hx hb dX12_feed_61 (by decide) (fun c_396 => ?_) (fun c_396 => ?_)
                                                                                                                                                · skip
                                                                                                                                                  refine lv_iload hx hb dX12_feed_69 (lv_at hl 7 rfl) ?_
                                                                                                                                                  refine lv_istore (lv' := [(7, .int p5), (6, .int 18), (0, .ref h0), (1, .int p1), (2, .int p2), (3, .int p3), (4, .int p4), (5, .int p5)]) hx hb dX12_feed_71 hl (by decide) rfl (fun ls hl => ?_)
                                                                                                                                                  refine lv_aload_n hx hb dX12_feed_73 rfl (lv_at hl 2 rfl) ?_
                                                                                                                                                  refine va_get (D := D) (ci := 11) (v := .ref h1) (C := RX12) (T := TX12) (N := 50) hx hb hts inw_X12_feed_X12 hown hK hP 0 rfl rfl 0 (by decide) (hts (.fieldLink RX12 61 "EarTableModel" "tape" "[B") (by decide +kernel)) (fun _ h9 => h9) rfl dX12_feed_74 ?_
                                                                                                                                                  refine lv_aload_n hx hb dX12_feed_77 rfl (lv_at hl 2 rfl) ?_
                                                                                                                                                  refine va_get (D := D) (ci := 11) (v := .int 0) (C := RX12) (T := TX12) (N := 50) hx hb hts inw_X12_feed_X12 hown hK hP 0 rfl rfl 2 (by decide) (hts (.fieldLink RX12 58 "EarTableModel" "taped" "I") (by decide +kernel)) (fun _ h9 => h9) rfl dX12_feed_78 ?_
                                                                                                                                                  refine lv_iload hx hb dX12_feed_81 (lv_at hl 1 rfl) ?_
                                                                                                                                                  refine lv_iadd hx hb dX12_feed_83 ?_
                                                                                                                                                  refine kn_top (y := 18) (by decide) ?_
                                                                                                                                                  refine lv_iload hx hb dX12_feed_84 (lv_at hl 0 rfl) ?_
                                                                                                                                                  refine lv_bipush (v := 24) hx hb dX12_feed_86 (by decide) ?_
                                                                                                                                                  refine lv_bipush (v := 8) hx hb dX12_feed_88 (by decide) ?_
                                                                                                                                                  refine lv_iload hx hb dX12_feed_90 (lv_at hl 1 rfl) ?_
                                                                                                                                                  refine lv_iconst (v := 3) hx hb dX12_feed_92 (by decide) ?_
                                                                                                                                                  refine lv_iand hx hb dX12_feed_93 ?_
                                                                                                                                                  refine kn_top (y := 2) (by decide) ?_
                                                                                                                                                  refine lv_imul hx hb dX12_feed_94 ?_
                                                                                                                                                  refine kn_top (y := 16) (by decide) ?_
                                                                                                                                                  refine lv_isub hx hb dX12_feed_95 ?_
                                                                                                                                                  refine kn_top (y := 8) (by decide) ?_
                                                                                                                                                  refine lv_ishr hx hb dX12_feed_96 ?_
                                                                                                                                                  refine lv_topi (fun z_397 _ => ?_)
                                                                                                                                                  refine lv_i2b hx hb dX12_feed_97 rfl ?_
                                                                                                                                                  refine lv_topi (fun z_398 _ => ?_)
                                                                                                                                                  refine kn_bast hx hb hK hP hD hS 1 3 rfl rfl (kn_in (by decide)) dX12_feed_98 (fun f_399 H locs hP hD hS => ?_)
                                                                                                                                                  have hP : va_P D vwCl [(h0, .inr (11, [.ref h1, v0, .int 0, v1, v2, v3, v4, v5, v6, v7, v8, v9, v10, v11, v12, v13, v14, v15, v16, v17, v18, v19, v20, v21, v22, v23, v24, v25, v26, v27, v28, v29, v30, v31, v32, v33, v34, v35, v36, v37, v38, v39, v40, v41, v42, v43, v44, v45, v46, v47])), (h1, .inl (cB, 1620, .inl f_399))] H := hP
                                                                                                                                                  have hD : va_D A [(h0, .inr (11, [.ref h1, v0, .int 0, v1, v2, v3, v4, v5, v6, v7, v8, v9, v10, v11, v12, v13, v14, v15, v16, v17, v18, v19, v20, v21, v22, v23, v24, v25, v26, v27, v28, v29, v30, v31, v32, v33, v34, v35, v36, v37, v38, v39, v40, v41, v42, v43, v44, v45, v46, v47])), (h1, .inl (cB, 1620, .inl f_399))] := hD
                                                                                                                                                  refine lv_iinc (v := 19) (lv' := [(6, .int 19), (7, .int p5), (0, .ref h0), (1, .int p1), (2, .int p2), (3, .int p3), (4, .int p4), (5, .int p5)]) hx hb dX12_feed_99 hl (k := 1) rfl (by decide) (by decide) rfl (fun ls hl => ?_)
                                                                                                                                                  refine lv_goto (tgt := 18) hx hb dX12_feed_102 (by decide) ?_
                                                                                                                                                  refine lv_iload hx hb dX12_feed_18 (lv_at hl 0 rfl) ?_
                                                                                                                                                  refine lv_bipush (v := 20) hx hb dX12_feed_20 (by decide) ?_
                                                                                                                                                  refine lv_icmp_ge (tgt := 105) hx hb dX12_feed_22 (by decide) (fun c_400 => ?_) (fun c_400 => ?_)
                                                                                                                                                  · skip
                                                                                                                                                    exact absurd c_400 (by decide)
                                                                                                                                                  · skip
                                                                                                                                                    refine lv_iload hx hb dX12_feed_25 (lv_at hl 0 rfl) ?_
                                                                                                                                                    refine lv_iconst (v := 4) hx hb dX12_feed_27 (by decide) ?_
                                                                                                                                                    refine lv_icmp_ge (tgt := 35) hx hb dX12_feed_28 (by decide) (fun c_401 => ?_) (fun c_401 => ?_)
                                                                                                                                                    · skip
                                                                                                                                                      refine lv_iload hx hb dX12_feed_35 (lv_at hl 0 rfl) ?_
                                                                                                                                                      refine lv_bipush (v := 8) hx hb dX12_feed_37 (by decide) ?_
                                                                                                                                                      refine lv_icmp_ge (tgt := 46) hx hb dX12_feed_39 (by decide) (fun c_402 => ?_) (fun c_402 => ?_)
                                                                                                                                                      · skip
                                                                                                                                                        refine lv_iload hx hb dX12_feed_46 (lv_at hl 0 rfl) ?_
                                                                                                                                                        refine lv_bipush (v := 12) hx hb dX12_feed_48 (by decide) ?_
                                                                                                                                                        refine lv_icmp_ge (tgt := 57) hx hb dX12_feed_50 (by decide) (fun c_403 => ?_) (fun c_403 => ?_)
                                                                                                                                                        · skip
                                                                                                                                                          refine lv_iload hx hb dX12_feed_57 (lv_at hl 0 rfl) ?_
                                                                                                                                                          refine lv_bipush (v := 16) hx hb dX12_feed_59 (by decide) ?_
                                                                                                                                                          refine lv_icmp_ge (tgt := 69) hx hb dX12_feed_61 (by decide) (fun c_404 => ?_) (fun c_404 => ?_)
                                                                                                                                                          · skip
                                                                                                                                                            refine lv_iload hx hb dX12_feed_69 (lv_at hl 7 rfl) ?_
                                                                                                                                                            refine lv_istore (lv' := [(7, .int p5), (6, .int 19), (0, .ref h0), (1, .int p1), (2, .int p2), (3, .int p3), (4, .int p4), (5, .int p5)]) hx hb dX12_feed_71 hl (by decide) rfl (fun ls hl => ?_)
                                                                                                                                                            refine lv_aload_n hx hb dX12_feed_73 rfl (lv_at hl 2 rfl) ?_
                                                                                                                                                            refine va_get (D := D) (ci := 11) (v := .ref h1) (C := RX12) (T := TX12) (N := 50) hx hb hts inw_X12_feed_X12 hown hK hP 0 rfl rfl 0 (by decide) (hts (.fieldLink RX12 61 "EarTableModel" "tape" "[B") (by decide +kernel)) (fun _ h9 => h9) rfl dX12_feed_74 ?_
                                                                                                                                                            refine lv_aload_n hx hb dX12_feed_77 rfl (lv_at hl 2 rfl) ?_
                                                                                                                                                            refine va_get (D := D) (ci := 11) (v := .int 0) (C := RX12) (T := TX12) (N := 50) hx hb hts inw_X12_feed_X12 hown hK hP 0 rfl rfl 2 (by decide) (hts (.fieldLink RX12 58 "EarTableModel" "taped" "I") (by decide +kernel)) (fun _ h9 => h9) rfl dX12_feed_78 ?_
                                                                                                                                                            refine lv_iload hx hb dX12_feed_81 (lv_at hl 1 rfl) ?_
                                                                                                                                                            refine lv_iadd hx hb dX12_feed_83 ?_
                                                                                                                                                            refine kn_top (y := 19) (by decide) ?_
                                                                                                                                                            refine lv_iload hx hb dX12_feed_84 (lv_at hl 0 rfl) ?_
                                                                                                                                                            refine lv_bipush (v := 24) hx hb dX12_feed_86 (by decide) ?_
                                                                                                                                                            refine lv_bipush (v := 8) hx hb dX12_feed_88 (by decide) ?_
                                                                                                                                                            refine lv_iload hx hb dX12_feed_90 (lv_at hl 1 rfl) ?_
                                                                                                                                                            refine lv_iconst (v := 3) hx hb dX12_feed_92 (by decide) ?_
                                                                                                                                                            refine lv_iand hx hb dX12_feed_93 ?_
                                                                                                                                                            refine kn_top (y := 3) (by decide) ?_
                                                                                                                                                            refine lv_imul hx hb dX12_feed_94 ?_
                                                                                                                                                            refine kn_top (y := 24) (by decide) ?_
                                                                                                                                                            refine lv_isub hx hb dX12_feed_95 ?_
                                                                                                                                                            refine kn_top (y := 0) (by decide) ?_
                                                                                                                                                            refine lv_ishr hx hb dX12_feed_96 ?_
                                                                                                                                                            refine lv_topi (fun z_405 _ => ?_)
                                                                                                                                                            refine lv_i2b hx hb dX12_feed_97 rfl ?_
                                                                                                                                                            refine lv_topi (fun z_406 _ => ?_)
                                                                                                                                                            refine kn_bast hx hb hK hP hD hS 1 3 rfl rfl (kn_in (by decide)) dX12_feed_98 (fun f_407 H locs hP hD hS => ?_)
                                                                                                                                                            have hP : va_P D vwCl [(h0, .inr (11, [.ref h1, v0, .int 0, v1, v2, v3, v4, v5, v6, v7, v8, v9, v10, v11, v12, v13, v14, v15, v16, v17, v18, v19, v20, v21, v22, v23, v24, v25, v26, v27, v28, v29, v30, v31, v32, v33, v34, v35, v36, v37, v38, v39, v40, v41, v42, v43, v44, v45, v46, v47])), (h1, .inl (cB, 1620, .inl f_407))] H := hP
                                                                                                                                                            have hD : va_D A [(h0, .inr (11, [.ref h1, v0, .int 0, v1, v2, v3, v4, v5, v6, v7, v8, v9, v10, v11, v12, v13, v14, v15, v16, v17, v18, v19, v20, v21, v22, v23, v24, v25, v26, v27, v28, v29, v30, v31, v32, v33, v34, v35, v36, v37, v38, v39, v40, v41, v42, v43, v44, v45, v46, v47])), (h1, .inl (cB, 1620, .inl f_407))] := hD
                                                                                                                                                            refine lv_iinc (v := 20) (lv' := [(6, .int 20), (7, .int p5), (0, .ref h0), (1, .int p1), (2, .int p2), (3, .int p3), (4, .int p4), (5, .int p5)]) hx hb dX12_feed_99 hl (k := 1) rfl (by decide) (by decide) rfl (fun ls hl => ?_)
                                                                                                                                                            refine lv_goto (tgt := 18) hx hb dX12_feed_102 (by decide) ?_
                                                                                                                                                            refine lv_iload hx hb dX12_feed_18 (lv_at hl 0 rfl) ?_
                                                                                                                                                            refine lv_bipush (v := 20) hx hb dX12_feed_20 (by decide) ?_
                                                                                                                                                            refine lv_icmp_ge (tgt := 105) hx hb dX12_feed_22 (by decide) (fun c_408 => ?_) (fun c_408 => ?_)
                                                                                                                                                            · skip
                                                                                                                                                              refine lv_aload_n hx hb dX12_feed_105 rfl (lv_at hl 2 rfl) ?_
                                                                                                                                                              refine lv_dup hx hb dX12_feed_106 rfl ?_
                                                                                                                                                              refine va_get (D := D) (ci := 11) (v := .int 0) (C := RX12) (T := TX12) (N := 50) hx hb hts inw_X12_feed_X12 hown hK hP 0 rfl rfl 2 (by decide) (hts (.fieldLink RX12 58 "EarTableModel" "taped" "I") (by decide +kernel)) (fun _ h9 => h9) rfl dX12_feed_107 ?_
                                                                                                                                                              refine lv_bipush (v := 20) hx hb dX12_feed_110 (by decide) ?_
                                                                                                                                                              refine lv_iadd hx hb dX12_feed_112 ?_
                                                                                                                                                              refine kn_top (y := 20) (by decide) ?_
                                                                                                                                                              refine va_put (D := D) (ci := 11) (v := .int 20) (ty := .int) (C := RX12) (T := TX12) (N := 50) hx hb hts inw_X12_feed_X12 tyX12 tyX12_ok nmX12 hown hK hP hD hS 0 rfl rfl 2 (by decide) (hts (.fieldLink RX12 58 "EarTableModel" "taped" "I") (by decide +kernel)) (fun _ h9 => h9) rfl (by decide +kernel) rfl rfl (Nat.le_of_ble_eq_true rfl) dX12_feed_113 (fun H locs hP hD hS => ?_)
                                                                                                                                                              have hP : va_P D vwCl [(h0, .inr (11, [.ref h1, v0, .int 20, v1, v2, v3, v4, v5, v6, v7, v8, v9, v10, v11, v12, v13, v14, v15, v16, v17, v18, v19, v20, v21, v22, v23, v24, v25, v26, v27, v28, v29, v30, v31, v32, v33, v34, v35, v36, v37, v38, v39, v40, v41, v42, v43, v44, v45, v46, v47])), (h1, .inl (cB, 1620, .inl f_407))] H := hP
                                                                                                                                                              have hD : va_D A [(h0, .inr (11, [.ref h1, v0, .int 20, v1, v2, v3, v4, v5, v6, v7, v8, v9, v10, v11, v12, v13, v14, v15, v16, v17, v18, v19, v20, v21, v22, v23, v24, v25, v26, v27, v28, v29, v30, v31, v32, v33, v34, v35, v36, v37, v38, v39, v40, v41, v42, v43, v44, v45, v46, v47])), (h1, .inl (cB, 1620, .inl f_407))] := hD
                                                                                                                                                              refine lv_aload_n hx hb dX12_feed_116 rfl (lv_at hl 2 rfl) ?_
                                                                                                                                                              refine va_get (D := D) (ci := 11) (v := .int 20) (C := RX12) (T := TX12) (N := 50) hx hb hts inw_X12_feed_X12 hown hK hP 0 rfl rfl 2 (by decide) (hts (.fieldLink RX12 58 "EarTableModel" "taped" "I") (by decide +kernel)) (fun _ h9 => h9) rfl dX12_feed_117 ?_
                                                                                                                                                              have hP9 := hP.sub (ws' := [(h0, .inr (11, [.ref h1, v0, .int 20, v1, v2, v3, v4, v5, v6, v7, v8, v9, v10, v11, v12, v13, v14, v15, v16, v17, v18, v19, v20, v21, v22, v23, v24, v25, v26, v27, v28, v29, v30, v31, v32, v33, v34, v35, v36, v37, v38, v39, v40, v41, v42, v43, v44, v45, v46, v47])), (h1, .inl (cB, 1620, .inl f_407))]) [0, 1] rfl
                                                                                                                                                              have hD9 := hD.sub (ws' := [(h0, .inr (11, [.ref h1, v0, .int 20, v1, v2, v3, v4, v5, v6, v7, v8, v9, v10, v11, v12, v13, v14, v15, v16, v17, v18, v19, v20, v21, v22, v23, v24, v25, v26, v27, v28, v29, v30, v31, v32, v33, v34, v35, v36, v37, v38, v39, v40, v41, v42, v43, v44, v45, v46, v47])), (h1, .inl (cB, 1620, .inl f_407))]) [0, 1] (by decide) rfl
                                                                                                                                                              exact W.iret (v := 20) hx hb hr (fun t ht hW => ⟨⟨20, f_407, rfl, rfl, by rw [ht]; exact hP9, hD9⟩, hS.F ht⟩) hS.2.2 dX12_feed_120
                                                                                                                                                            · skip
                                                                                                                                                              exact absurd rfl c_408
                                                                                                                                                          · skip
                                                                                                                                                            exact absurd (by decide) c_404
                                                                                                                                                        · skip
                                                                                                                                                          exact absurd (by decide) c_403
                                                                                                                                                      · skip
                                                                                                                                                        exact absurd (by decide) c_402
                                                                                                                                                    · skip
                                                                                                                                                      exact absurd (by decide) c_401
                                                                                                                                                · skip
                                                                                                                                                  exact absurd (by decide) c_396
                                                                                                                                              · skip
                                                                                                                                                exact absurd (by decide) c_395
                                                                                                                                            · skip
                                                                                                                                              exact absurd (by decide) c_394
                                                                                                                                          · skip
                                                                                                                                            exact absurd (by decide) c_393
                                                                                                                                      · skip
                                                                                                                                        exact absurd (by decide) c_388
                                                                                                                                    · skip
                                                                                                                                      exact absurd (by decide) c_387
                                                                                                                                  · skip
                                                                                                                                    exact absurd (by decide) c_386
                                                                                                                                · skip
                                                                                                                                  exact absurd (by decide) c_385
                                                                                                                            · skip
                                                                                                                              exact absurd rfl c_380
                                                                                                                          · skip
                                                                                                                            exact absurd (by decide) c_379
                                                                                                                        · skip
                                                                                                                          exact absurd (by decide) c_378
                                                                                                                      · skip
                                                                                                                        exact absurd (by decide) c_377
                                                                                                                · skip
                                                                                                                  exact absurd (by decide) c_371
                                                                                                              · skip
                                                                                                                exact absurd (by decide) c_370
                                                                                                            · skip
                                                                                                              exact absurd (by decide) c_369
                                                                                                      · skip
                                                                                                        exact absurd (by decide) c_363
                                                                                                    · skip
                                                                                                      exact absurd (by decide) c_362
                                                                                                  · skip
                                                                                                    exact absurd (by decide) c_361
                                                                                            · skip
                                                                                              exact absurd (by decide) c_355
                                                                                          · skip
                                                                                            exact absurd (by decide) c_354
                                                                                        · skip
                                                                                          exact absurd (by decide) c_353
                                                                                  · skip
                                                                                    exact absurd rfl c_347
                                                                                · skip
                                                                                  exact absurd (by decide) c_346
                                                                              · skip
                                                                                exact absurd (by decide) c_345
                                                                        · skip
                                                                          exact absurd (by decide) c_339
                                                                      · skip
                                                                        exact absurd (by decide) c_338
                                                                · skip
                                                                  exact absurd (by decide) c_332
                                                              · skip
                                                                exact absurd (by decide) c_331
                                                        · skip
                                                          exact absurd (by decide) c_325
                                                      · skip
                                                        exact absurd (by decide) c_324
                                                · skip
                                                  exact absurd rfl c_318
                                              · skip
                                                exact absurd (by decide) c_317
                                        · skip
                                          exact absurd (by decide) c_311
                                  · skip
                                    exact absurd (by decide) c_305
                            · skip
                              exact absurd (by decide) c_299
                      · skip
                        exact absurd rfl c_293
  · skip
    exact absurd (by decide) c_271
def o_X11_end : List Cond := [.fieldLink RX11 10 "EarTable" "tape" "LEarTable$Tape;"]
def u_X11_end : List Cond := .code yX11_end cX11_end 2 (some .int) :: (o_X11_end ++ (wsX110 ++ (wsX70 ++ ([] : List Cond))))
theorem inw_X11_end_X11 : ∀ w ∈ wsX110, w ∈ u_X11_end := fun w h => List.mem_cons_of_mem _ (List.mem_append_right _ (List.mem_append_left _ h))
theorem inw_X11_end_X7 : ∀ w ∈ wsX70, w ∈ u_X11_end := fun w h => List.mem_cons_of_mem _ (List.mem_append_right _ (List.mem_append_right _ (List.mem_append_left _ h)))
set_option maxRecDepth 20000 in
theorem good_X11_end : u_X11_end.all goodWord = true := by decide +kernel
set_option maxRecDepth 20000 in
theorem in_X11_end : ∀ w ∈ u_X11_end, w ∈ lw_tbl := ma_cons inc_X11_end (ma_app (ma_pos o_X11_end [384] (by decide +kernel)) (ma_app inb_X11 (ma_app inb_X7 ma_nil)))
set_option maxHeartbeats 4000000 in
set_option maxRecDepth 100000 in
theorem c_X11_end (l : Launch) (D : va_G) (cI cJ cZ cB : ClassId) (sz : Nat) (h0 : Nat) (h1 : Nat) (v0 : Value) (v1 : Value) (v2 : Value) (v3 : Value) (v4 : Value) (v5 : Value) (v6 : Value) (v7 : Value) (v8 : Value) (v9 : Value) (v10 : Value) (v11 : Value) (v12 : Value) (p1 : Int32) : Met l yX11_end u_X11_end ({ frames := 0, cells := 0, slots := 0, locals := 0 }) (va_Pc [.ref h0, .int p1] (kPre D cI cJ cZ cB [(h0, .inr (10, [.ref h1, v0, v1, v2, v3, v4, v5, v6, v7, v8, v9, v10, v11])), (h1, .inr (6, [v12, .int 0]))] sz)) (va_Qi (fun (r : Int32) (_ : Value) => r = F_end p1) (kB D (fun (u : Value) => [(h0, .inr (10, [.ref h1, v0, v1, v2, v3, v4, v5, v6, v7, v8, v9, v10, v11])), (h1, .inr (6, [v12, u]))]) (va_A [(h0, .inr (10, [.ref h1, v0, v1, v2, v3, v4, v5, v6, v7, v8, v9, v10, v11])), (h1, .inr (6, [v12, .int 0]))] sz)) (va_A [(h0, .inr (10, [.ref h1, v0, v1, v2, v3, v4, v5, v6, v7, v8, v9, v10, v11])), (h1, .inr (6, [v12, .int 0]))] sz)) 0 0 (va_A [(h0, .inr (10, [.ref h1, v0, v1, v2, v3, v4, v5, v6, v7, v8, v9, v10, v11])), (h1, .inr (6, [v12, .int 0]))] sz) := by
  refine Met.ofW (cc := cX11_end) (maxL := 2) (ret := (some .int)) (by decide) rfl ?_
  intro p e s m args below meth c s₁ B hml hv
  obtain ⟨rfl, hsz, hP, hK, hN, hD0⟩ := hv
  have hx := B.exec
  have hb := B.bytes
  have hr := B.returns
  have hts := atoms_spec (ws := u_X11_end) B.pre
  have hown : s.vm.findClass RX11 = some m.cls := findClass_of_methodNamed B.named
  have hlocks := B.notSynchronized
  subst hsz
  have hD := hD0.self (sz := s.heap.size)
  generalize hAe : va_A [(h0, .inr (10, [.ref h1, v0, v1, v2, v3, v4, v5, v6, v7, v8, v9, v10, v11])), (h1, .inr (6, [v12, .int 0]))] s.heap.size = A at hD ⊢
  have hA : ∀ q : Nat, s.heap.size ≤ q → A q := fun q h => by rw [← hAe]; exact Or.inr h
  have hS : va_S A s.heap s.heap [] := va_S.rf
  have hP : va_P D vwCl [(h0, .inr (10, [.ref h1, v0, v1, v2, v3, v4, v5, v6, v7, v8, v9, v10, v11])), (h1, .inr (6, [v12, .int 0]))] s.heap := hP
  have hl := lv_entry ([.ref h0, .int p1]) (n := 2) (Nat.le_of_ble_eq_true rfl)
  rw [lg_entry_eq]
  generalize (lg_sl ([.ref h0, .int p1]) ++ List.replicate (2 - (lg_sl ([.ref h0, .int p1])).length) Slot.unset).toArray = ls at hl ⊢
  have hl : lv_has ls 2 [(0, .ref h0), (1, .int p1)] := hl
  obtain ⟨H, hHe⟩ : ∃ H, s.heap = H := ⟨_, rfl⟩
  have hP : va_P D vwCl [(h0, .inr (10, [.ref h1, v0, v1, v2, v3, v4, v5, v6, v7, v8, v9, v10, v11])), (h1, .inr (6, [v12, .int 0]))] H := by rw [← hHe]; exact hP
  have hS : va_S A s.heap H [] := by rw [← hHe]; exact hS
  refine kn_heap hHe ?_
  refine lv_iload_n hx hb dX11_end_0 rfl (lv_at hl 1 rfl) ?_
  refine lv_if_lt (tgt := 15) hx hb dX11_end_1 (by decide) (fun c_413 => ?_) (fun c_413 => ?_)
  · skip
    refine lv_iconst (v := (-1)) hx hb dX11_end_15 (by decide) ?_
    have hP9 := hP.sub (ws' := [(h0, .inr (10, [.ref h1, v0, v1, v2, v3, v4, v5, v6, v7, v8, v9, v10, v11])), (h1, .inr (6, [v12, .int 0]))]) [0, 1] rfl
    have hD9 := hD.sub (ws' := [(h0, .inr (10, [.ref h1, v0, v1, v2, v3, v4, v5, v6, v7, v8, v9, v10, v11])), (h1, .inr (6, [v12, .int 0]))]) [0, 1] (by decide) rfl
    exact W.iret (v := (-1)) hx hb hr (fun t ht hW => ⟨⟨(-1), (.int 0), rfl, (kE1 c_413), by rw [ht]; exact hP9, hD9⟩, hS.F ht⟩) hS.2.2 dX11_end_16
  · skip
    refine lv_iload_n hx hb dX11_end_4 rfl (lv_at hl 1 rfl) ?_
    refine lv_aload_n hx hb dX11_end_5 rfl (lv_at hl 0 rfl) ?_
    refine va_get (D := D) (ci := 10) (v := .ref h1) (C := RX11) (T := TX11) (N := 13) hx hb hts inw_X11_end_X11 hown hK hP 0 rfl rfl 0 (by decide) (hts (.fieldLink RX11 10 "EarTable" "tape" "LEarTable$Tape;") (by decide +kernel)) (fun _ h9 => h9) rfl dX11_end_6 ?_
    refine va_getN (D := D) (ci := 6) (v := .int 0) (C := RX7) (T := TX7) (N := 2) hx hb hts inw_X11_end_X7 hown hK hP 1 rfl rfl 1 (by decide) (va_Nw.use rfl (hN.1 (RX11, 90, "EarTable$Tape", "length", "I") (by decide +kernel))) (fun _ h9 => h9) rfl dX11_end_9 ?_
    refine lv_icmp_le (tgt := 17) hx hb dX11_end_12 (by decide) (fun c_414 => ?_) (fun c_414 => ?_)
    · skip
      refine lv_aload_n hx hb dX11_end_17 rfl (lv_at hl 0 rfl) ?_
      refine va_get (D := D) (ci := 10) (v := .ref h1) (C := RX11) (T := TX11) (N := 13) hx hb hts inw_X11_end_X11 hown hK hP 0 rfl rfl 0 (by decide) (hts (.fieldLink RX11 10 "EarTable" "tape" "LEarTable$Tape;") (by decide +kernel)) (fun _ h9 => h9) rfl dX11_end_18 ?_
      refine lv_iload_n hx hb dX11_end_21 rfl (lv_at hl 1 rfl) ?_
      refine va_putN (D := D) (ci := 6) (v := .int p1) (ty := .int) (C := RX7) (T := TX7) (N := 2) hx hb hts inw_X11_end_X7 tyX7 tyX7_ok nmX7 hown hK hP hD hS 1 rfl rfl 1 (by decide) (va_Nw.use rfl (hN.1 (RX11, 90, "EarTable$Tape", "length", "I") (by decide +kernel))) (fun _ h9 => h9) rfl (by decide +kernel) rfl rfl (Nat.le_of_ble_eq_true rfl) dX11_end_22 (fun H locs hP hD hS => ?_)
      have hP : va_P D vwCl [(h0, .inr (10, [.ref h1, v0, v1, v2, v3, v4, v5, v6, v7, v8, v9, v10, v11])), (h1, .inr (6, [v12, .int p1]))] H := hP
      have hD : va_D A [(h0, .inr (10, [.ref h1, v0, v1, v2, v3, v4, v5, v6, v7, v8, v9, v10, v11])), (h1, .inr (6, [v12, .int p1]))] := hD
      refine lv_iload_n hx hb dX11_end_25 rfl (lv_at hl 1 rfl) ?_
      have hP9 := hP.sub (ws' := [(h0, .inr (10, [.ref h1, v0, v1, v2, v3, v4, v5, v6, v7, v8, v9, v10, v11])), (h1, .inr (6, [v12, .int p1]))]) [0, 1] rfl
      have hD9 := hD.sub (ws' := [(h0, .inr (10, [.ref h1, v0, v1, v2, v3, v4, v5, v6, v7, v8, v9, v10, v11])), (h1, .inr (6, [v12, .int p1]))]) [0, 1] (by decide) rfl
      exact W.iret (v := p1) hx hb hr (fun t ht hW => ⟨⟨p1, (.int p1), rfl, (kE3 c_413 c_414), by rw [ht]; exact hP9, hD9⟩, hS.F ht⟩) hS.2.2 dX11_end_26
    · skip
      refine lv_iconst (v := (-1)) hx hb dX11_end_15 (by decide) ?_
      have hP9 := hP.sub (ws' := [(h0, .inr (10, [.ref h1, v0, v1, v2, v3, v4, v5, v6, v7, v8, v9, v10, v11])), (h1, .inr (6, [v12, .int 0]))]) [0, 1] rfl
      have hD9 := hD.sub (ws' := [(h0, .inr (10, [.ref h1, v0, v1, v2, v3, v4, v5, v6, v7, v8, v9, v10, v11])), (h1, .inr (6, [v12, .int 0]))]) [0, 1] (by decide) rfl
      exact W.iret (v := (-1)) hx hb hr (fun t ht hW => ⟨⟨(-1), (.int 0), rfl, (kE2 c_414), by rw [ht]; exact hP9, hD9⟩, hS.F ht⟩) hS.2.2 dX11_end_16
def o_X12_end : List Cond := [.fieldLink RX12 58 "EarTableModel" "taped" "I"]
def u_X12_end : List Cond := .code yX12_end cX12_end 2 (some .int) :: (o_X12_end ++ (wsX120 ++ ([] : List Cond)))
theorem inw_X12_end_X12 : ∀ w ∈ wsX120, w ∈ u_X12_end := fun w h => List.mem_cons_of_mem _ (List.mem_append_right _ (List.mem_append_left _ h))
set_option maxRecDepth 20000 in
theorem good_X12_end : u_X12_end.all goodWord = true := by decide +kernel
set_option maxRecDepth 20000 in
theorem in_X12_end : ∀ w ∈ u_X12_end, w ∈ lw_tbl := ma_cons inc_X12_end (ma_app (ma_pos o_X12_end [978] (by decide +kernel)) (ma_app inb_X12 ma_nil))
set_option maxHeartbeats 4000000 in
set_option maxRecDepth 100000 in
theorem c_X12_end (l : Launch) (D : va_G) (cI cJ cZ cB : ClassId) (sz : Nat) (h0 : Nat) (v0 : Value) (v1 : Value) (v2 : Value) (v3 : Value) (v4 : Value) (v5 : Value) (v6 : Value) (v7 : Value) (v8 : Value) (v9 : Value) (v10 : Value) (v11 : Value) (v12 : Value) (v13 : Value) (v14 : Value) (v15 : Value) (v16 : Value) (v17 : Value) (v18 : Value) (v19 : Value) (v20 : Value) (v21 : Value) (v22 : Value) (v23 : Value) (v24 : Value) (v25 : Value) (v26 : Value) (v27 : Value) (v28 : Value) (v29 : Value) (v30 : Value) (v31 : Value) (v32 : Value) (v33 : Value) (v34 : Value) (v35 : Value) (v36 : Value) (v37 : Value) (v38 : Value) (v39 : Value) (v40 : Value) (v41 : Value) (v42 : Value) (v43 : Value) (v44 : Value) (v45 : Value) (v46 : Value) (v47 : Value) (v48 : Value) (p1 : Int32) : Met l yX12_end u_X12_end ({ frames := 0, cells := 0, slots := 0, locals := 0 }) (va_Pc [.ref h0, .int p1] (kPre D cI cJ cZ cB [(h0, .inr (11, [v0, v1, .int 0, v2, v3, v4, v5, v6, v7, v8, v9, v10, v11, v12, v13, v14, v15, v16, v17, v18, v19, v20, v21, v22, v23, v24, v25, v26, v27, v28, v29, v30, v31, v32, v33, v34, v35, v36, v37, v38, v39, v40, v41, v42, v43, v44, v45, v46, v47, v48]))] sz)) (va_Qi (fun (r : Int32) (_ : Value) => r = F_end p1) (kB D (fun (u : Value) => [(h0, .inr (11, [v0, v1, u, v2, v3, v4, v5, v6, v7, v8, v9, v10, v11, v12, v13, v14, v15, v16, v17, v18, v19, v20, v21, v22, v23, v24, v25, v26, v27, v28, v29, v30, v31, v32, v33, v34, v35, v36, v37, v38, v39, v40, v41, v42, v43, v44, v45, v46, v47, v48]))]) (va_A [(h0, .inr (11, [v0, v1, .int 0, v2, v3, v4, v5, v6, v7, v8, v9, v10, v11, v12, v13, v14, v15, v16, v17, v18, v19, v20, v21, v22, v23, v24, v25, v26, v27, v28, v29, v30, v31, v32, v33, v34, v35, v36, v37, v38, v39, v40, v41, v42, v43, v44, v45, v46, v47, v48]))] sz)) (va_A [(h0, .inr (11, [v0, v1, .int 0, v2, v3, v4, v5, v6, v7, v8, v9, v10, v11, v12, v13, v14, v15, v16, v17, v18, v19, v20, v21, v22, v23, v24, v25, v26, v27, v28, v29, v30, v31, v32, v33, v34, v35, v36, v37, v38, v39, v40, v41, v42, v43, v44, v45, v46, v47, v48]))] sz)) 0 0 (va_A [(h0, .inr (11, [v0, v1, .int 0, v2, v3, v4, v5, v6, v7, v8, v9, v10, v11, v12, v13, v14, v15, v16, v17, v18, v19, v20, v21, v22, v23, v24, v25, v26, v27, v28, v29, v30, v31, v32, v33, v34, v35, v36, v37, v38, v39, v40, v41, v42, v43, v44, v45, v46, v47, v48]))] sz) := by
  refine Met.ofW (cc := cX12_end) (maxL := 2) (ret := (some .int)) (by decide) rfl ?_
  intro p e s m args below meth c s₁ B hml hv
  obtain ⟨rfl, hsz, hP, hK, hN, hD0⟩ := hv
  have hx := B.exec
  have hb := B.bytes
  have hr := B.returns
  have hts := atoms_spec (ws := u_X12_end) B.pre
  have hown : s.vm.findClass RX12 = some m.cls := findClass_of_methodNamed B.named
  have hlocks := B.notSynchronized
  subst hsz
  have hD := hD0.self (sz := s.heap.size)
  generalize hAe : va_A [(h0, .inr (11, [v0, v1, .int 0, v2, v3, v4, v5, v6, v7, v8, v9, v10, v11, v12, v13, v14, v15, v16, v17, v18, v19, v20, v21, v22, v23, v24, v25, v26, v27, v28, v29, v30, v31, v32, v33, v34, v35, v36, v37, v38, v39, v40, v41, v42, v43, v44, v45, v46, v47, v48]))] s.heap.size = A at hD ⊢
  have hA : ∀ q : Nat, s.heap.size ≤ q → A q := fun q h => by rw [← hAe]; exact Or.inr h
  have hS : va_S A s.heap s.heap [] := va_S.rf
  have hP : va_P D vwCl [(h0, .inr (11, [v0, v1, .int 0, v2, v3, v4, v5, v6, v7, v8, v9, v10, v11, v12, v13, v14, v15, v16, v17, v18, v19, v20, v21, v22, v23, v24, v25, v26, v27, v28, v29, v30, v31, v32, v33, v34, v35, v36, v37, v38, v39, v40, v41, v42, v43, v44, v45, v46, v47, v48]))] s.heap := hP
  have hl := lv_entry ([.ref h0, .int p1]) (n := 2) (Nat.le_of_ble_eq_true rfl)
  rw [lg_entry_eq]
  generalize (lg_sl ([.ref h0, .int p1]) ++ List.replicate (2 - (lg_sl ([.ref h0, .int p1])).length) Slot.unset).toArray = ls at hl ⊢
  have hl : lv_has ls 2 [(0, .ref h0), (1, .int p1)] := hl
  obtain ⟨H, hHe⟩ : ∃ H, s.heap = H := ⟨_, rfl⟩
  have hP : va_P D vwCl [(h0, .inr (11, [v0, v1, .int 0, v2, v3, v4, v5, v6, v7, v8, v9, v10, v11, v12, v13, v14, v15, v16, v17, v18, v19, v20, v21, v22, v23, v24, v25, v26, v27, v28, v29, v30, v31, v32, v33, v34, v35, v36, v37, v38, v39, v40, v41, v42, v43, v44, v45, v46, v47, v48]))] H := by rw [← hHe]; exact hP
  have hS : va_S A s.heap H [] := by rw [← hHe]; exact hS
  refine kn_heap hHe ?_
  refine lv_iload_n hx hb dX12_end_0 rfl (lv_at hl 1 rfl) ?_
  refine lv_if_lt (tgt := 12) hx hb dX12_end_1 (by decide) (fun c_418 => ?_) (fun c_418 => ?_)
  · skip
    refine lv_iconst (v := (-1)) hx hb dX12_end_12 (by decide) ?_
    have hP9 := hP.sub (ws' := [(h0, .inr (11, [v0, v1, .int 0, v2, v3, v4, v5, v6, v7, v8, v9, v10, v11, v12, v13, v14, v15, v16, v17, v18, v19, v20, v21, v22, v23, v24, v25, v26, v27, v28, v29, v30, v31, v32, v33, v34, v35, v36, v37, v38, v39, v40, v41, v42, v43, v44, v45, v46, v47, v48]))]) [0] rfl
    have hD9 := hD.sub (ws' := [(h0, .inr (11, [v0, v1, .int 0, v2, v3, v4, v5, v6, v7, v8, v9, v10, v11, v12, v13, v14, v15, v16, v17, v18, v19, v20, v21, v22, v23, v24, v25, v26, v27, v28, v29, v30, v31, v32, v33, v34, v35, v36, v37, v38, v39, v40, v41, v42, v43, v44, v45, v46, v47, v48]))]) [0] (by decide) rfl
    exact W.iret (v := (-1)) hx hb hr (fun t ht hW => ⟨⟨(-1), (.int 0), rfl, (kE1 c_418), by rw [ht]; exact hP9, hD9⟩, hS.F ht⟩) hS.2.2 dX12_end_13
  · skip
    refine lv_iload_n hx hb dX12_end_4 rfl (lv_at hl 1 rfl) ?_
    refine lv_aload_n hx hb dX12_end_5 rfl (lv_at hl 0 rfl) ?_
    refine va_get (D := D) (ci := 11) (v := .int 0) (C := RX12) (T := TX12) (N := 50) hx hb hts inw_X12_end_X12 hown hK hP 0 rfl rfl 2 (by decide) (hts (.fieldLink RX12 58 "EarTableModel" "taped" "I") (by decide +kernel)) (fun _ h9 => h9) rfl dX12_end_6 ?_
    refine lv_icmp_le (tgt := 14) hx hb dX12_end_9 (by decide) (fun c_419 => ?_) (fun c_419 => ?_)
    · skip
      refine lv_aload_n hx hb dX12_end_14 rfl (lv_at hl 0 rfl) ?_
      refine lv_iload_n hx hb dX12_end_15 rfl (lv_at hl 1 rfl) ?_
      refine va_put (D := D) (ci := 11) (v := .int p1) (ty := .int) (C := RX12) (T := TX12) (N := 50) hx hb hts inw_X12_end_X12 tyX12 tyX12_ok nmX12 hown hK hP hD hS 0 rfl rfl 2 (by decide) (hts (.fieldLink RX12 58 "EarTableModel" "taped" "I") (by decide +kernel)) (fun _ h9 => h9) rfl (by decide +kernel) rfl rfl (Nat.le_of_ble_eq_true rfl) dX12_end_16 (fun H locs hP hD hS => ?_)
      have hP : va_P D vwCl [(h0, .inr (11, [v0, v1, .int p1, v2, v3, v4, v5, v6, v7, v8, v9, v10, v11, v12, v13, v14, v15, v16, v17, v18, v19, v20, v21, v22, v23, v24, v25, v26, v27, v28, v29, v30, v31, v32, v33, v34, v35, v36, v37, v38, v39, v40, v41, v42, v43, v44, v45, v46, v47, v48]))] H := hP
      have hD : va_D A [(h0, .inr (11, [v0, v1, .int p1, v2, v3, v4, v5, v6, v7, v8, v9, v10, v11, v12, v13, v14, v15, v16, v17, v18, v19, v20, v21, v22, v23, v24, v25, v26, v27, v28, v29, v30, v31, v32, v33, v34, v35, v36, v37, v38, v39, v40, v41, v42, v43, v44, v45, v46, v47, v48]))] := hD
      refine lv_iload_n hx hb dX12_end_19 rfl (lv_at hl 1 rfl) ?_
      have hP9 := hP.sub (ws' := [(h0, .inr (11, [v0, v1, .int p1, v2, v3, v4, v5, v6, v7, v8, v9, v10, v11, v12, v13, v14, v15, v16, v17, v18, v19, v20, v21, v22, v23, v24, v25, v26, v27, v28, v29, v30, v31, v32, v33, v34, v35, v36, v37, v38, v39, v40, v41, v42, v43, v44, v45, v46, v47, v48]))]) [0] rfl
      have hD9 := hD.sub (ws' := [(h0, .inr (11, [v0, v1, .int p1, v2, v3, v4, v5, v6, v7, v8, v9, v10, v11, v12, v13, v14, v15, v16, v17, v18, v19, v20, v21, v22, v23, v24, v25, v26, v27, v28, v29, v30, v31, v32, v33, v34, v35, v36, v37, v38, v39, v40, v41, v42, v43, v44, v45, v46, v47, v48]))]) [0] (by decide) rfl
      exact W.iret (v := p1) hx hb hr (fun t ht hW => ⟨⟨p1, (.int p1), rfl, (kE3 c_418 c_419), by rw [ht]; exact hP9, hD9⟩, hS.F ht⟩) hS.2.2 dX12_end_20
    · skip
      refine lv_iconst (v := (-1)) hx hb dX12_end_12 (by decide) ?_
      have hP9 := hP.sub (ws' := [(h0, .inr (11, [v0, v1, .int 0, v2, v3, v4, v5, v6, v7, v8, v9, v10, v11, v12, v13, v14, v15, v16, v17, v18, v19, v20, v21, v22, v23, v24, v25, v26, v27, v28, v29, v30, v31, v32, v33, v34, v35, v36, v37, v38, v39, v40, v41, v42, v43, v44, v45, v46, v47, v48]))]) [0] rfl
      have hD9 := hD.sub (ws' := [(h0, .inr (11, [v0, v1, .int 0, v2, v3, v4, v5, v6, v7, v8, v9, v10, v11, v12, v13, v14, v15, v16, v17, v18, v19, v20, v21, v22, v23, v24, v25, v26, v27, v28, v29, v30, v31, v32, v33, v34, v35, v36, v37, v38, v39, v40, v41, v42, v43, v44, v45, v46, v47, v48]))]) [0] (by decide) rfl
      exact W.iret (v := (-1)) hx hb hr (fun t ht hW => ⟨⟨(-1), (.int 0), rfl, (kE2 c_419), by rw [ht]; exact hP9, hD9⟩, hS.F ht⟩) hS.2.2 dX12_end_13
def o_X7_byteAt : List Cond := [.fieldLink RX7 15 "EarTable$Tape" "length" "I"]
def u_X7_byteAt : List Cond := .code yX7_byteAt cX7_byteAt 2 (some .int) :: (o_X7_byteAt ++ (wsX70 ++ ([] : List Cond)))
theorem inw_X7_byteAt_X7 : ∀ w ∈ wsX70, w ∈ u_X7_byteAt := fun w h => List.mem_cons_of_mem _ (List.mem_append_right _ (List.mem_append_left _ h))
set_option maxRecDepth 20000 in
theorem good_X7_byteAt : u_X7_byteAt.all goodWord = true := by decide +kernel
set_option maxRecDepth 20000 in
theorem in_X7_byteAt : ∀ w ∈ u_X7_byteAt, w ∈ lw_tbl := ma_cons inc_X7_byteAt (ma_app (ma_pos o_X7_byteAt [96] (by decide +kernel)) (ma_app inb_X7 ma_nil))
set_option maxHeartbeats 4000000 in
set_option maxRecDepth 100000 in
theorem c_X7_byteAt (l : Launch) (D : va_G) (cI cJ cZ cB : ClassId) (sz : Nat) (h0 : Nat) (v0 : Value) : Met l yX7_byteAt u_X7_byteAt ({ frames := 0, cells := 0, slots := 0, locals := 0 }) (va_Pc [.ref h0, .int 0] (kPre D cI cJ cZ cB [(h0, .inr (6, [v0, .int 0]))] sz)) (va_Qi (fun (r : Int32) (_ : Unit) => r = (-1)) (kB D (fun (u : Unit) => [(h0, .inr (6, [v0, .int 0]))]) (va_A [(h0, .inr (6, [v0, .int 0]))] sz)) (va_A [(h0, .inr (6, [v0, .int 0]))] sz)) 0 0 (va_A [(h0, .inr (6, [v0, .int 0]))] sz) := by
  refine Met.ofW (cc := cX7_byteAt) (maxL := 2) (ret := (some .int)) (by decide) rfl ?_
  intro p e s m args below meth c s₁ B hml hv
  obtain ⟨rfl, hsz, hP, hK, hN, hD0⟩ := hv
  have hx := B.exec
  have hb := B.bytes
  have hr := B.returns
  have hts := atoms_spec (ws := u_X7_byteAt) B.pre
  have hown : s.vm.findClass RX7 = some m.cls := findClass_of_methodNamed B.named
  have hlocks := B.notSynchronized
  subst hsz
  have hD := hD0.self (sz := s.heap.size)
  generalize hAe : va_A [(h0, .inr (6, [v0, .int 0]))] s.heap.size = A at hD ⊢
  have hA : ∀ q : Nat, s.heap.size ≤ q → A q := fun q h => by rw [← hAe]; exact Or.inr h
  have hS : va_S A s.heap s.heap [] := va_S.rf
  have hP : va_P D vwCl [(h0, .inr (6, [v0, .int 0]))] s.heap := hP
  have hl := lv_entry ([.ref h0, .int 0]) (n := 2) (Nat.le_of_ble_eq_true rfl)
  rw [lg_entry_eq]
  generalize (lg_sl ([.ref h0, .int 0]) ++ List.replicate (2 - (lg_sl ([.ref h0, .int 0])).length) Slot.unset).toArray = ls at hl ⊢
  have hl : lv_has ls 2 [(0, .ref h0), (1, .int 0)] := hl
  obtain ⟨H, hHe⟩ : ∃ H, s.heap = H := ⟨_, rfl⟩
  have hP : va_P D vwCl [(h0, .inr (6, [v0, .int 0]))] H := by rw [← hHe]; exact hP
  have hS : va_S A s.heap H [] := by rw [← hHe]; exact hS
  refine kn_heap hHe ?_
  refine lv_iload_n hx hb dX7_byteAt_0 rfl (lv_at hl 1 rfl) ?_
  refine lv_if_lt (tgt := 21) hx hb dX7_byteAt_1 (by decide) (fun c_425 => ?_) (fun c_425 => ?_)
  · skip
    exact absurd c_425 (by decide)
  · skip
    refine lv_iload_n hx hb dX7_byteAt_4 rfl (lv_at hl 1 rfl) ?_
    refine lv_aload_n hx hb dX7_byteAt_5 rfl (lv_at hl 0 rfl) ?_
    refine va_get (D := D) (ci := 6) (v := .int 0) (C := RX7) (T := TX7) (N := 2) hx hb hts inw_X7_byteAt_X7 hown hK hP 0 rfl rfl 1 (by decide) (hts (.fieldLink RX7 15 "EarTable$Tape" "length" "I") (by decide +kernel)) (fun _ h9 => h9) rfl dX7_byteAt_6 ?_
    refine lv_icmp_ge (tgt := 21) hx hb dX7_byteAt_9 (by decide) (fun c_426 => ?_) (fun c_426 => ?_)
    · skip
      refine lv_iconst (v := (-1)) hx hb dX7_byteAt_21 (by decide) ?_
      have hP9 := hP.sub (ws' := [(h0, .inr (6, [v0, .int 0]))]) [0] rfl
      have hD9 := hD.sub (ws' := [(h0, .inr (6, [v0, .int 0]))]) [0] (by decide) rfl
      exact W.iret (v := (-1)) hx hb hr (fun t ht hW => ⟨⟨(-1), (), rfl, rfl, by rw [ht]; exact hP9, hD9⟩, hS.F ht⟩) hS.2.2 dX7_byteAt_22
    · skip
      exact absurd rfl c_426
def o_X3_isLetter : List Cond := []
def u_X3_isLetter : List Cond := .code yX3_isLetter cX3_isLetter 1 (some .boolean) :: (o_X3_isLetter ++ ([] : List Cond))
set_option maxRecDepth 20000 in
theorem good_X3_isLetter : u_X3_isLetter.all goodWord = true := by decide +kernel
set_option maxRecDepth 20000 in
theorem in_X3_isLetter : ∀ w ∈ u_X3_isLetter, w ∈ lw_tbl := ma_cons inc_X3_isLetter (ma_app (ma_pos o_X3_isLetter [] (by decide +kernel)) ma_nil)
set_option maxHeartbeats 4000000 in
set_option maxRecDepth 100000 in
theorem c_X3_isLetter (l : Launch) (D : va_G) (cI cJ cZ cB : ClassId) (sz : Nat) : Met l yX3_isLetter u_X3_isLetter ({ frames := 0, cells := 0, slots := 0, locals := 0 }) (va_Pc [.int (-1)] (kPre D cI cJ cZ cB [] sz)) (va_Qi (fun (r : Int32) (_ : Unit) => r = 0) (kB D (fun (u : Unit) => []) (va_A [] sz)) (va_A [] sz)) 0 0 (va_A [] sz) := by
  refine Met.ofW (cc := cX3_isLetter) (maxL := 1) (ret := (some .boolean)) (by decide) rfl ?_
  intro p e s m args below meth c s₁ B hml hv
  obtain ⟨rfl, hsz, hP, hK, hN, hD0⟩ := hv
  have hx := B.exec
  have hb := B.bytes
  have hr := B.returns
  have hts := atoms_spec (ws := u_X3_isLetter) B.pre
  have hown : s.vm.findClass RX3 = some m.cls := findClass_of_methodNamed B.named
  have hlocks := B.notSynchronized
  subst hsz
  have hD := hD0.self (sz := s.heap.size)
  generalize hAe : va_A [] s.heap.size = A at hD ⊢
  have hA : ∀ q : Nat, s.heap.size ≤ q → A q := fun q h => by rw [← hAe]; exact Or.inr h
  have hS : va_S A s.heap s.heap [] := va_S.rf
  have hP : va_P D vwCl [] s.heap := hP
  have hl := lv_entry ([.int (-1)]) (n := 1) (Nat.le_of_ble_eq_true rfl)
  rw [lg_entry_eq]
  generalize (lg_sl ([.int (-1)]) ++ List.replicate (1 - (lg_sl ([.int (-1)])).length) Slot.unset).toArray = ls at hl ⊢
  have hl : lv_has ls 1 [(0, .int (-1))] := hl
  obtain ⟨H, hHe⟩ : ∃ H, s.heap = H := ⟨_, rfl⟩
  have hP : va_P D vwCl [] H := by rw [← hHe]; exact hP
  have hS : va_S A s.heap H [] := by rw [← hHe]; exact hS
  refine kn_heap hHe ?_
  refine lv_iload_n hx hb dX3_isLetter_0 rfl (lv_at hl 0 rfl) ?_
  refine lv_bipush (v := 97) hx hb dX3_isLetter_1 (by decide) ?_
  refine lv_icmp_lt (tgt := 16) hx hb dX3_isLetter_3 (by decide) (fun c_429 => ?_) (fun c_429 => ?_)
  · skip
    refine lv_iconst (v := 0) hx hb dX3_isLetter_16 (by decide) ?_
    have hP9 := hP.sub (ws' := []) [] rfl
    have hD9 := hD.sub (ws' := []) [] (by decide) rfl
    exact W.zret (v := 0) hx hb hr rfl (fun t ht hW => ⟨⟨0, (), rfl, rfl, by rw [ht]; exact hP9, hD9⟩, hS.F ht⟩) hS.2.2 dX3_isLetter_17
  · skip
    exact absurd (by decide) c_429
