/-! what every contract of this claim speaks of: the classes' numbers D, the four array classes, the links to nest mates' members -/
abbrev TY (cI cJ cZ cB : ClassId) : List (ClassId × FieldType) := [(cI, .int), (cJ, .long), (cZ, .boolean), (cB, .byte)]
def nestF : List (String × Nat × String × String × String) := [(RX0, 30, "EarTable$Grid", "kinds", "[I"), (RX0, 33, "EarTable$Grid", "contents", "[J"), (RX11, 90, "EarTable$Tape", "length", "I"), (RX11, 102, "EarTable$TableReader", "grid", "LEarTable$Grid;"), (RX11, 106, "EarTable$Grid", "lines", "I"), (RX11, 109, "EarTable$TableReader", "faultKind", "I"), (RX11, 112, "EarTable$TableReader", "faultPlace", "I"), (RX11, 120, "EarTable$Grid", "kinds", "[I"), (RX11, 123, "EarTable$Grid", "widths", "[I"), (RX11, 134, "EarTable$Grid", "contents", "[J"), (RX11, 186, "EarTable$Trail", "takenLine", "I"), (RX11, 189, "EarTable$Trail", "takenColumn", "I"), (RX11, 195, "EarTable$Speech", "count", "I"), (RX11, 198, "EarTable$Speech", "kinds", "[I"), (RX11, 199, "EarTable$Speech", "levels", "[I"), (RX11, 202, "EarTable$Speech", "wheres", "[I"), (RX11, 211, "EarTable$Ways", "lengths", "[I"), (RX11, 214, "EarTable$Ways", "openings", "[I"), (RX11, 229, "EarTable$Grid", "columns", "I"), (RX11, 253, "EarTable$Grid", "levels", "I"), (RX11, 255, "EarTable$View", "size", "I"), (RX11, 258, "EarTable$Changes", "count", "I"), (RX11, 259, "EarTable$Trail", "count", "I"), (RX3, 25, "EarTable$Tape", "length", "I"), (RX4, 39, "EarTable$Grid", "levels", "I"), (RX5, 44, "EarTable$View", "size", "I"), (RX5, 59, "EarTable$Grid", "widths", "[I"), (RX5, 63, "EarTable$Grid", "columns", "I"), (RX5, 69, "EarTable$View", "order", "[I"), (RX6, 34, "EarTable$Grid", "columns", "I"), (RX6, 37, "EarTable$Grid", "lines", "I"), (RX6, 40, "EarTable$Grid", "levels", "I"), (RX6, 46, "EarTable$Scanner", "kind", "I"), (RX6, 60, "EarTable$Grid", "sums", "[Z"), (RX6, 78, "EarTable$Scanner", "place", "I"), (RX6, 87, "EarTable$Grid", "kinds", "[I"), (RX6, 94, "EarTable$Grid", "contents", "[J"), (RX6, 98, "EarTable$Scanner", "content", "J"), (RX6, 111, "EarTable$Grid", "widths", "[I"), (RX6, 114, "EarTable$Grid", "firstColumns", "[I"), (RX9, 29, "EarTable$Grid", "lines", "I"), (RX9, 48, "EarTable$Grid", "contents", "[J")]
def nestM : List (String × Nat × MethodName) := [(RX11, 9, yX7_init), (RX11, 27, yX1_init), (RX11, 68, yX8_init), (RX6, 22, yX1_init)]
def NW (U : State) : Prop := (∀ q ∈ nestF, va_Nw (.fieldLinkNest q.1 q.2.1 q.2.2.1 q.2.2.2.1 q.2.2.2.2 "EarTable") U) ∧ ∀ q ∈ nestM, va_Nw (.methodLinkNest q.1 q.2.1 q.2.2 "EarTable") U
theorem NW.warm {s U : State} (hW : s.WarmedH U.vm) (h : NW s) : NW U := ⟨fun q hq => va_Nw.warmF hW (h.1 q hq), fun q hq => va_Nw.warmM hW (h.2 q hq)⟩
theorem NW.same {u U : State} (e : u.vm = U.vm) (h : NW u) : NW U := ⟨fun q hq => va_Nw.same rfl e (h.1 q hq), fun q hq => va_Nw.same rfl e (h.2 q hq)⟩
set_option maxRecDepth 20000 in
theorem nestF_in : ∀ q ∈ nestF, Cond.fieldLinkNest q.1 q.2.1 q.2.2.1 q.2.2.2.1 q.2.2.2.2 "EarTable" ∈ lw_tbl := fun q hq => ma_pos (nestF.map (fun q => Cond.fieldLinkNest q.1 q.2.1 q.2.2.1 q.2.2.2.1 q.2.2.2.2 "EarTable")) [148, 152, 95, 191, 165, 193, 195, 150, 144, 155, 312, 314, 283, 277, 279, 281, 254, 256, 161, 169, 219, 337, 310, 97, 168, 218, 145, 160, 215, 158, 162, 166, 117, 157, 120, 149, 153, 123, 146, 142, 164, 154] (by decide +kernel) _ (List.mem_map.mpr ⟨q, hq, rfl⟩)
set_option maxRecDepth 20000 in
theorem nestM_in : ∀ q ∈ nestM, Cond.methodLinkNest q.1 q.2.1 q.2.2 "EarTable" ∈ lw_tbl := fun q hq => ma_pos (nestM.map (fun q => Cond.methodLinkNest q.1 q.2.1 q.2.2 "EarTable")) [90, 206, 303, 137] (by decide +kernel) _ (List.mem_map.mpr ⟨q, hq, rfl⟩)
theorem NW.of {args : Array Value} {s : State} (hts : ∀ w ∈ lw_tbl, w.before args s = true) : NW s := ⟨fun q hq => va_Nw.of rfl (hts _ (nestF_in q hq)), fun q hq => va_Nw.of rfl (hts _ (nestM_in q hq))⟩
/-- a contract's start: the cells ws, the heap's size -/
abbrev kPre (D : va_G) (cI cJ cZ cB : ClassId) (ws : va_W) (sz : Nat) (U : State) : Prop := U.heap.size = sz ∧ va_P D vwCl ws U.heap ∧ va_K D vwCl (TY cI cJ cZ cB) U ∧ NW U ∧ va_D (fun _ => True) ws
/-- a contract's end: the cells w1 u, for some u -/
abbrev kB {S : Type} (D : va_G) (w1 : S → va_W) (A : Nat → Prop) (u : S) (t : State) : Prop := va_P D vwCl (w1 u) t.heap ∧ va_D A (w1 u)
theorem kp_blind {D : va_G} {cI cJ cZ cB : ClassId} {ws : va_W} {sz : Nat} {av : List Value} : FrameBlind (va_Pc av (kPre D cI cJ cZ cB ws sz)) := fun a U g mk q => by
  obtain ⟨q0, q1, qP, qK, qN, qD⟩ := q
  exact ⟨q0, q1, qP, va_K.moved (u := U) (U := U.calling g mk a) (Vm.Alike.refl U.vm) qK, NW.same (u := U) rfl qN, qD⟩
theorem kp_S {s : State} {H : Heap} {D : va_G} {cI cJ cZ cB : ClassId} {ws : va_W} {A : Nat → Prop} {As : List Value} (hP : va_P D vwCl ws H) (hK : va_K D vwCl (TY cI cJ cZ cB) s) (hN : NW s) (hD : va_D A ws) : PreS s H (va_Pc As (kPre D cI cJ cZ cB ws H.size)) As :=
  ⟨kp_blind, fun U hU hW => ⟨rfl, by rw [hU], by rw [hU]; exact hP, va_K.moved hW.alike hK, NW.warm hW hN, hD.weaken (fun _ _ _ _ => trivial)⟩⟩
theorem kp_V {s : State} {H : Heap} {D : va_G} {cI cJ cZ cB : ClassId} {ws : va_W} {A : Nat → Prop} {As : List Value} {b : Nat} {q : vw_C} {fs : List Value} (q0 c0 : Nat) (hc : vwCl[c0]? = some q) (he : ws[q0]? = some (b, .inr (c0, fs))) (hP : va_P D vwCl ws H) (hK : va_K D vwCl (TY cI cJ cZ cB) s) (hN : NW s) (hD : va_D A ws) : PreV s H q.1 b (va_Pc (.ref b :: As) (kPre D cI cJ cZ cB ws H.size)) As :=
  ⟨kp_blind, va_recv hK hP hc he, (kp_S (As := .ref b :: As) hP hK hN hD).2⟩
section KN
variable {p : Program} {l : Launch} {e : Env} {R : Room} {s : State} {m : MethodId} {args : Array Value} {below : List Frame} {meth : Method} {c : Code} {H : Heap} {locs : List Loc} {cells slots : Nat} {Q : State → Prop}
variable {cc : ByteArray} {pc : Nat} {ls : Array Slot} {rest st0 : List Value} {D : va_G} {cl : List vw_C} {A : Nat → Prop} {a : Nat} {tys : List (ClassId × FieldType)} {ws wc wr : va_W} {H0 : Heap} {mc ms : Nat} {ar : Array Value}
theorem kn_heap {g : JFrame} {H1 : Heap} (h : H = H1) (k : W p l e R s m args below meth c H1 locs cells slots Q g) : W p l e R s m args below meth c H locs cells slots Q g := h ▸ k
theorem kn_top {x y : Int32} (h : x = y) (k : W p l e R s m args below meth c H locs cells slots Q (F0 m pc ls (.int y :: rest))) : W p l e R s m args below meth c H locs cells slots Q (F0 m pc ls (.int x :: rest)) := h ▸ k
theorem kn_calli {S : Type} {post : Int32 → S → Prop} {w1 : S → va_W} {cells' slots' : Nat} (hr : va_Run p l e R s m args below meth c H locs cells slots mc ms (F0 m pc ls st0) rest (va_Qi post (kB D w1 (va_A wc H.size)) (va_A wc H.size) ar) (va_A wc H.size)) (hS : va_S A H0 H locs) (hA : ∀ q, H0.size ≤ q → A q) (hP : va_P D vwCl ws H) (hD : va_D A ws) (isC isR : List Nat) (hC : isC.map (fun i => ws[i]?) = wc.map some) (hR : isR.map (fun i => ws[i]?) = wr.map some) (hn : va_nd isR = true) (hdis : ∀ i ∈ isR, i ∉ isC) (h1 : cells + mc ≤ cells') (h2 : slots + ms ≤ slots')
    (kk : ∀ (r : Int32) (u : S) (H1 : Heap) (locs1 : List Loc), post r u → va_P D vwCl (wr ++ w1 u) H1 → va_D A (wr ++ w1 u) → va_S A H0 H1 locs1 → W p l e R s m args below meth c H1 locs1 cells' slots' Q (F0 m (pc + 3) ls (.int r :: rest))) : W p l e R s m args below meth c H locs cells slots Q (F0 m pc ls st0) := by
  have hF := va_free hD hS hA isC hC
  refine va_calli hr hS (fun q _ h => hF q h) hF (fun r u t H1 locs1 ht hvm hw hB hz hk hS1 => W.widen h1 h2 ?_)
  obtain ⟨b1, b2⟩ := hB
  rw [ht] at b1
  obtain ⟨g1, g2⟩ := va_join hP hD isC isR hC hR hn hdis hk hF b1 b2
  exact kk r u H1 locs1 hw g1 g2 hS1
theorem kn_calll {S : Type} {post : Int64 → S → Prop} {w1 : S → va_W} {cells' slots' : Nat} (hr : va_Run p l e R s m args below meth c H locs cells slots mc ms (F0 m pc ls st0) rest (va_Ql post (kB D w1 (va_A wc H.size)) (va_A wc H.size) ar) (va_A wc H.size)) (hS : va_S A H0 H locs) (hA : ∀ q, H0.size ≤ q → A q) (hP : va_P D vwCl ws H) (hD : va_D A ws) (isC isR : List Nat) (hC : isC.map (fun i => ws[i]?) = wc.map some) (hR : isR.map (fun i => ws[i]?) = wr.map some) (hn : va_nd isR = true) (hdis : ∀ i ∈ isR, i ∉ isC) (h1 : cells + mc ≤ cells') (h2 : slots + ms ≤ slots')
    (kk : ∀ (r : Int64) (u : S) (H1 : Heap) (locs1 : List Loc), post r u → va_P D vwCl (wr ++ w1 u) H1 → va_D A (wr ++ w1 u) → va_S A H0 H1 locs1 → W p l e R s m args below meth c H1 locs1 cells' slots' Q (F0 m (pc + 3) ls (.long r :: rest))) : W p l e R s m args below meth c H locs cells slots Q (F0 m pc ls st0) := by
  have hF := va_free hD hS hA isC hC
  refine va_calll hr hS (fun q _ h => hF q h) hF (fun r u t H1 locs1 ht hvm hw hB hz hk hS1 => W.widen h1 h2 ?_)
  obtain ⟨b1, b2⟩ := hB
  rw [ht] at b1
  obtain ⟨g1, g2⟩ := va_join hP hD isC isR hC hR hn hdis hk hF b1 b2
  exact kk r u H1 locs1 hw g1 g2 hS1
theorem kn_callv {S : Type} {post : S → Prop} {w1 : S → va_W} {cells' slots' : Nat} (hr : va_Run p l e R s m args below meth c H locs cells slots mc ms (F0 m pc ls st0) rest (va_Qv post (kB D w1 (va_A wc H.size)) (va_A wc H.size) ar) (va_A wc H.size)) (hS : va_S A H0 H locs) (hA : ∀ q, H0.size ≤ q → A q) (hP : va_P D vwCl ws H) (hD : va_D A ws) (isC isR : List Nat) (hC : isC.map (fun i => ws[i]?) = wc.map some) (hR : isR.map (fun i => ws[i]?) = wr.map some) (hn : va_nd isR = true) (hdis : ∀ i ∈ isR, i ∉ isC) (h1 : cells + mc ≤ cells') (h2 : slots + ms ≤ slots')
    (kk : ∀ (u : S) (H1 : Heap) (locs1 : List Loc), post u → va_P D vwCl (wr ++ w1 u) H1 → va_D A (wr ++ w1 u) → va_S A H0 H1 locs1 → W p l e R s m args below meth c H1 locs1 cells' slots' Q (F0 m (pc + 3) ls rest)) : W p l e R s m args below meth c H locs cells slots Q (F0 m pc ls st0) := by
  have hF := va_free hD hS hA isC hC
  refine va_callv hr hS (fun q _ h => hF q h) hF (fun u t H1 locs1 ht hvm hw hB hz hk hS1 => W.widen h1 h2 ?_)
  obtain ⟨b1, b2⟩ := hB
  rw [ht] at b1
  obtain ⟨g1, g2⟩ := va_join hP hD isC isR hC hR hn hdis hk hF b1 b2
  exact kk u H1 locs1 hw g1 g2 hS1
/-- a new array of a class that the tables have already; what it holds is forgotten (kn_newi, kn_newl), or is 0 (kn_newz) -/
theorem kn_new (hexec : p.tables.exec = Jvm.exec) (hb : c.code = cc) {atype : ArrayType} {ty : FieldType} (harr : (Cond.arrayClass ty).before args s = true) (hty : newarray.typeOf atype = ty) (hK : va_K D cl tys s) (hP : va_P D cl ws H) (hD : va_D A ws) (hS : va_S A H0 H locs) (hA : ∀ q, H0.size ≤ q → A q) (t0 : Nat) {cA : ClassId} (ht : tys[t0]? = some (cA, ty)) (hq : ∀ x, va_RA s x ty = (s.vm.findClass ("[" ++ ty.toString) = some x))
    {n : Int32} {N' : Nat} {a0 : vp_A} (ha : ∀ cA : ClassId, vp_cell cA a0 = arrV cA N' (fun _ => defaultValue ty)) (hn : ¬ n < 0) (hN : n.toNatClampNeg = N') (hbytes : N' * componentBytes ty ≤ 536870912) (hcells : cells + 1 ≤ R.cells) (hslots : slots + N' ≤ R.slots) (hdg : decode cc pc = .ok (.newarray atype, 2))
    (kk : ∀ (q : Nat) (H1 : Heap), va_P D cl (ws ++ [(q, .inl (cA, a0))]) H1 → va_D A (ws ++ [(q, .inl (cA, a0))]) → va_S A H0 H1 locs → W p l e R s m args below meth c H1 locs (cells + 1) (slots + N') Q (F0 m (pc + 2) ls (.ref q :: rest))) : W p l e R s m args below meth c H locs cells slots Q (F0 m pc ls (.int n :: rest)) := by
  refine va_newa hexec hb (by rw [hty]; exact harr) hty hK hP hD hS hA ha hn hN hbytes hcells hslots hdg (fun q cX H1 hK1 hP1 hD1 hS1 => ?_)
  have e1 := (hK1.2 tys.length (cX, ty) (by simp)).2
  have e2 := (hK.2 t0 _ ht).2
  rw [hq] at e1 e2
  have e3 : cX = cA := Option.some.inj (e1.symm.trans e2)
  subst e3
  exact kk q H1 hP1 hD1 hS1
theorem kn_newz (hexec : p.tables.exec = Jvm.exec) (hb : c.code = cc) {atype : ArrayType} {ty : FieldType} (harr : (Cond.arrayClass ty).before args s = true) (hty : newarray.typeOf atype = ty) (hK : va_K D cl tys s) (hP : va_P D cl ws H) (hD : va_D A ws) (hS : va_S A H0 H locs) (hA : ∀ q, H0.size ≤ q → A q) (t0 : Nat) {cA : ClassId} (ht : tys[t0]? = some (cA, ty)) (hq : ∀ x, va_RA s x ty = (s.vm.findClass ("[" ++ ty.toString) = some x))
    {n : Int32} {N' : Nat} (ha : ∀ cA : ClassId, vp_cell cA (N', .inl (fun _ => 0)) = arrV cA N' (fun _ => defaultValue ty)) (hn : ¬ n < 0) (hN : n.toNatClampNeg = N') (hbytes : N' * componentBytes ty ≤ 536870912) (hcells : cells + 1 ≤ R.cells) (hslots : slots + N' ≤ R.slots) (hdg : decode cc pc = .ok (.newarray atype, 2))
    (kk : ∀ (q : Nat) (H1 : Heap), va_P D cl (ws ++ [(q, .inl (cA, N', .inl (fun _ => 0)))]) H1 → va_D A (ws ++ [(q, .inl (cA, N', .inl (fun _ => 0)))]) → va_S A H0 H1 locs → W p l e R s m args below meth c H1 locs (cells + 1) (slots + N') Q (F0 m (pc + 2) ls (.ref q :: rest))) : W p l e R s m args below meth c H locs cells slots Q (F0 m pc ls (.int n :: rest)) :=
  kn_new hexec hb harr hty hK hP hD hS hA t0 ht hq ha hn hN hbytes hcells hslots hdg kk
theorem kn_newi (hexec : p.tables.exec = Jvm.exec) (hb : c.code = cc) {atype : ArrayType} {ty : FieldType} (harr : (Cond.arrayClass ty).before args s = true) (hty : newarray.typeOf atype = ty) (hK : va_K D cl tys s) (hP : va_P D cl ws H) (hD : va_D A ws) (hS : va_S A H0 H locs) (hA : ∀ q, H0.size ≤ q → A q) (t0 : Nat) {cA : ClassId} (ht : tys[t0]? = some (cA, ty)) (hq : ∀ x, va_RA s x ty = (s.vm.findClass ("[" ++ ty.toString) = some x))
    {n : Int32} {N' : Nat} (ha : ∀ cA : ClassId, vp_cell cA (N', .inl (fun _ => 0)) = arrV cA N' (fun _ => defaultValue ty)) (hn : ¬ n < 0) (hN : n.toNatClampNeg = N') (hbytes : N' * componentBytes ty ≤ 536870912) (hcells : cells + 1 ≤ R.cells) (hslots : slots + N' ≤ R.slots) (hdg : decode cc pc = .ok (.newarray atype, 2))
    (kk : ∀ (q : Nat) (f : Nat → Int32) (H1 : Heap), va_P D cl (ws ++ [(q, .inl (cA, N', .inl f))]) H1 → va_D A (ws ++ [(q, .inl (cA, N', .inl f))]) → va_S A H0 H1 locs → W p l e R s m args below meth c H1 locs (cells + 1) (slots + N') Q (F0 m (pc + 2) ls (.ref q :: rest))) : W p l e R s m args below meth c H locs cells slots Q (F0 m pc ls (.int n :: rest)) :=
  kn_new hexec hb harr hty hK hP hD hS hA t0 ht hq ha hn hN hbytes hcells hslots hdg (fun q H1 => kk q _ H1)
theorem kn_newl (hexec : p.tables.exec = Jvm.exec) (hb : c.code = cc) {atype : ArrayType} {ty : FieldType} (harr : (Cond.arrayClass ty).before args s = true) (hty : newarray.typeOf atype = ty) (hK : va_K D cl tys s) (hP : va_P D cl ws H) (hD : va_D A ws) (hS : va_S A H0 H locs) (hA : ∀ q, H0.size ≤ q → A q) (t0 : Nat) {cA : ClassId} (ht : tys[t0]? = some (cA, ty)) (hq : ∀ x, va_RA s x ty = (s.vm.findClass ("[" ++ ty.toString) = some x))
    {n : Int32} {N' : Nat} (ha : ∀ cA : ClassId, vp_cell cA (N', .inr (.inl (fun _ => 0))) = arrV cA N' (fun _ => defaultValue ty)) (hn : ¬ n < 0) (hN : n.toNatClampNeg = N') (hbytes : N' * componentBytes ty ≤ 536870912) (hcells : cells + 1 ≤ R.cells) (hslots : slots + N' ≤ R.slots) (hdg : decode cc pc = .ok (.newarray atype, 2))
    (kk : ∀ (q : Nat) (f : Nat → Int64) (H1 : Heap), va_P D cl (ws ++ [(q, .inl (cA, N', .inr (.inl f)))]) H1 → va_D A (ws ++ [(q, .inl (cA, N', .inr (.inl f)))]) → va_S A H0 H1 locs → W p l e R s m args below meth c H1 locs (cells + 1) (slots + N') Q (F0 m (pc + 2) ls (.ref q :: rest))) : W p l e R s m args below meth c H locs cells slots Q (F0 m pc ls (.int n :: rest)) :=
  kn_new hexec hb harr hty hK hP hD hS hA t0 ht hq ha hn hN hbytes hcells hslots hdg (fun q H1 => kk q _ H1)
theorem kn_iast (hexec : p.tables.exec = Jvm.exec) (hb : c.code = cc) (hK : va_K D cl tys s) (hP : va_P D cl ws H) (hD : va_D A ws) (hS : va_S A H0 H locs) (q0 t0 : Nat) {cA : ClassId} {n : Nat} {f : Nat → Int32} (ha : ws[q0]? = some (a, .inl (cA, n, .inl f))) (ht : tys[t0]? = some (cA, .int)) {i : Int32} {x : Int32} (hin : vp_in i n) (hdg : decode cc pc = .ok (.iastore, 1))
    (kk : ∀ (f1 : Nat → Int32) (H1 : Heap) (locs1 : List Loc), va_P D cl (ws.set q0 (a, .inl (cA, n, .inl f1))) H1 → va_D A (ws.set q0 (a, .inl (cA, n, .inl f1))) → va_S A H0 H1 locs1 → W p l e R s m args below meth c H1 locs1 cells slots Q (F0 m (pc + 1) ls rest)) : W p l e R s m args below meth c H locs cells slots Q (F0 m pc ls (.int x :: .int i :: .ref a :: rest)) :=
  va_iast hexec hb hK hP hD hS q0 t0 ha ht hin hdg (fun H1 l1 => kk _ H1 l1)
theorem kn_bast (hexec : p.tables.exec = Jvm.exec) (hb : c.code = cc) (hK : va_K D cl tys s) (hP : va_P D cl ws H) (hD : va_D A ws) (hS : va_S A H0 H locs) (q0 t0 : Nat) {cA : ClassId} {n : Nat} {f : Nat → Int32} (ha : ws[q0]? = some (a, .inl (cA, n, .inl f))) (ht : tys[t0]? = some (cA, .byte)) {i : Int32} {x : Int32} (hin : vp_in i n) (hdg : decode cc pc = .ok (.bastore, 1))
    (kk : ∀ (f1 : Nat → Int32) (H1 : Heap) (locs1 : List Loc), va_P D cl (ws.set q0 (a, .inl (cA, n, .inl f1))) H1 → va_D A (ws.set q0 (a, .inl (cA, n, .inl f1))) → va_S A H0 H1 locs1 → W p l e R s m args below meth c H1 locs1 cells slots Q (F0 m (pc + 1) ls rest)) : W p l e R s m args below meth c H locs cells slots Q (F0 m pc ls (.int x :: .int i :: .ref a :: rest)) :=
  va_bast hexec hb hK hP hD hS q0 t0 ha ht hin hdg (fun H1 l1 => kk _ H1 l1)
theorem kn_zast (hexec : p.tables.exec = Jvm.exec) (hb : c.code = cc) (hK : va_K D cl tys s) (hP : va_P D cl ws H) (hD : va_D A ws) (hS : va_S A H0 H locs) (q0 t0 : Nat) {cA : ClassId} {n : Nat} {f : Nat → Int32} (ha : ws[q0]? = some (a, .inl (cA, n, .inl f))) (ht : tys[t0]? = some (cA, .boolean)) {i : Int32} {x : Int32} (hin : vp_in i n) (hdg : decode cc pc = .ok (.bastore, 1))
    (kk : ∀ (f1 : Nat → Int32) (H1 : Heap) (locs1 : List Loc), va_P D cl (ws.set q0 (a, .inl (cA, n, .inl f1))) H1 → va_D A (ws.set q0 (a, .inl (cA, n, .inl f1))) → va_S A H0 H1 locs1 → W p l e R s m args below meth c H1 locs1 cells slots Q (F0 m (pc + 1) ls rest)) : W p l e R s m args below meth c H locs cells slots Q (F0 m pc ls (.int x :: .int i :: .ref a :: rest)) :=
  va_zast hexec hb hK hP hD hS q0 t0 ha ht hin hdg (fun H1 l1 => kk _ H1 l1)
theorem kn_copyi (hexec : p.tables.exec = Jvm.exec) (hb : c.code = cc) (hml : c.maxLocals = ls.size) {own : String} {index : Nat} (hown : s.vm.findClass own = some m.cls) (hlink : (Cond.methodLink own index arraycopyName).before args s = true) (hnat : (Cond.native arraycopyName).before args s = true) (hstat : (Cond.static arraycopyName).before args s = true) (hini : (Cond.initialized "java/lang/System").before args s = true)
    (hK : va_K D cl tys s) (hP : va_P D cl ws H) (hD : va_D A ws) (hS : va_S A H0 H locs) (q0 q1 t0 t1 : Nat) {a0 : Nat} {c0 c1 : ClassId} {n0 n1 : Nat} {f g : Nat → Int32} {ty : FieldType} (ha0 : ws[q0]? = some (a0, .inl (c0, n0, .inl f))) (ha1 : ws[q1]? = some (a, .inl (c1, n1, .inl g))) (ht0 : tys[t0]? = some (c0, ty)) (ht1 : tys[t1]? = some (c1, ty)) (hprim : refKind ty = false)
    {sp dp n : Int32} (h1 : ¬ sp < 0) (h2 : ¬ dp < 0) (h3 : ¬ n < 0) (h4 : sp.toNatClampNeg + n.toNatClampNeg ≤ n0) (h5 : dp.toNatClampNeg + n.toNatClampNeg ≤ n1) (hfit : ∀ i, i < n.toNatClampNeg → fits ty (.int (f (sp.toNatClampNeg + i))) = true)
    (hframes : 1 ≤ R.frames) (hlocals : (rest.map fun v => v.category).sum + (nativeFrameWords "java/lang/System" "arraycopy" 5 + 11) ≤ R.locals) (hdg : decode cc pc = .ok (.invokestatic index, 3))
    (kk : ∀ (f1 : Nat → Int32) (H1 : Heap) (locs1 : List Loc), va_P D cl (ws.set q1 (a, .inl (c1, n1, .inl f1))) H1 → va_D A (ws.set q1 (a, .inl (c1, n1, .inl f1))) → va_S A H0 H1 locs1 → W p l e R s m args below meth c H1 locs1 cells slots Q (F0 m (pc + 3) ls rest)) : W p l e R s m args below meth c H locs cells slots Q (F0 m pc ls (.int n :: .int dp :: .ref a :: .int sp :: .ref a0 :: rest)) :=
  va_copyi hexec hb hml hown hlink hnat hstat hini hK hP hD hS q0 q1 t0 t1 ha0 ha1 ht0 ht1 hprim h1 h2 h3 h4 h5 hfit hframes hlocals hdg (fun H1 l1 => kk _ H1 l1)
theorem kn_copyl (hexec : p.tables.exec = Jvm.exec) (hb : c.code = cc) (hml : c.maxLocals = ls.size) {own : String} {index : Nat} (hown : s.vm.findClass own = some m.cls) (hlink : (Cond.methodLink own index arraycopyName).before args s = true) (hnat : (Cond.native arraycopyName).before args s = true) (hstat : (Cond.static arraycopyName).before args s = true) (hini : (Cond.initialized "java/lang/System").before args s = true)
    (hK : va_K D cl tys s) (hP : va_P D cl ws H) (hD : va_D A ws) (hS : va_S A H0 H locs) (q0 q1 t0 t1 : Nat) {a0 : Nat} {c0 c1 : ClassId} {n0 n1 : Nat} {f g : Nat → Int64} {ty : FieldType} (ha0 : ws[q0]? = some (a0, .inl (c0, n0, .inr (.inl f)))) (ha1 : ws[q1]? = some (a, .inl (c1, n1, .inr (.inl g)))) (ht0 : tys[t0]? = some (c0, ty)) (ht1 : tys[t1]? = some (c1, ty)) (hprim : refKind ty = false)
    {sp dp n : Int32} (h1 : ¬ sp < 0) (h2 : ¬ dp < 0) (h3 : ¬ n < 0) (h4 : sp.toNatClampNeg + n.toNatClampNeg ≤ n0) (h5 : dp.toNatClampNeg + n.toNatClampNeg ≤ n1) (hfit : ∀ i, i < n.toNatClampNeg → fits ty (.long (f (sp.toNatClampNeg + i))) = true)
    (hframes : 1 ≤ R.frames) (hlocals : (rest.map fun v => v.category).sum + (nativeFrameWords "java/lang/System" "arraycopy" 5 + 11) ≤ R.locals) (hdg : decode cc pc = .ok (.invokestatic index, 3))
    (kk : ∀ (f1 : Nat → Int64) (H1 : Heap) (locs1 : List Loc), va_P D cl (ws.set q1 (a, .inl (c1, n1, .inr (.inl f1)))) H1 → va_D A (ws.set q1 (a, .inl (c1, n1, .inr (.inl f1)))) → va_S A H0 H1 locs1 → W p l e R s m args below meth c H1 locs1 cells slots Q (F0 m (pc + 3) ls rest)) : W p l e R s m args below meth c H locs cells slots Q (F0 m pc ls (.int n :: .int dp :: .ref a :: .int sp :: .ref a0 :: rest)) :=
  va_copyl hexec hb hml hown hlink hnat hstat hini hK hP hD hS q0 q1 t0 t1 ha0 ha1 ht0 ht1 hprim h1 h2 h3 h4 h5 hfit hframes hlocals hdg (fun H1 l1 => kk _ H1 l1)
end KN
/-! numbers -/
theorem kn_in {i : Int32} {n : Nat} (h : (decide (i < 0) || decide (n ≤ i.toNatClampNeg)) = false) : vp_in i n := by
  rw [Bool.or_eq_false_iff] at h
  exact fun q => q.elim (of_decide_eq_false h.1) (of_decide_eq_false h.2)
theorem kn_in2 {x M : Int32} {n : Nat} (h1 : ¬ x < 0) (h2 : ¬ M ≤ x) (hM : M.toInt = n) : vp_in x n := by
  rw [vp_in_iff]
  simp only [Int32.lt_iff_toInt_lt, Int32.le_iff_toInt_le] at h1 h2
  have h0 : (0 : Int32).toInt = 0 := by decide
  omega
theorem kn_L6 {L : Nat} (hL : L ≤ 6) (h : ¬ Int32.ofNat L - 6 < 0) : L = 6 := by
  match L, hL, h with
  | 0, _, h => exact absurd (by decide) h
  | 1, _, h => exact absurd (by decide) h
  | 2, _, h => exact absurd (by decide) h
  | 3, _, h => exact absurd (by decide) h
  | 4, _, h => exact absurd (by decide) h
  | 5, _, h => exact absurd (by decide) h
  | 6, _, _ => rfl
  | n + 7, h, _ => omega
def F_end (p : Int32) : Int32 := if p = 0 then 0 else -1
def F_key (p : Int32) : Int32 := if p < 0 then -1 else if p < 11 then 1 else -1
def F_about (p : Int32) : Int32 := if p = 0 ∨ p = 1 ∨ p = 2 ∨ p = 3 ∨ p = 4 ∨ p = 5 ∨ p = 6 ∨ p = 7 then 0 else -1
theorem kE5 {p : Int32} (h : ¬ p = 0) : (-1 : Int32) = F_end p := by rw [F_end, if_neg h]
theorem kE4 {p : Int32} (h : p = 0) : (0 : Int32) = F_end p := by rw [F_end, if_pos h]
theorem kE1 {p : Int32} (h : p < 0) : (-1 : Int32) = F_end p := kE5 (fun q => by rw [q] at h; exact absurd h (by decide))
theorem kE2 {p : Int32} (h : ¬ p ≤ 0) : (-1 : Int32) = F_end p := kE5 (fun q => h (by rw [q]; decide))
theorem kE3 {p : Int32} (h1 : ¬ p < 0) (h2 : p ≤ 0) : p = F_end p := by
  have e : p = 0 := by
    simp only [Int32.lt_iff_toInt_lt, Int32.le_iff_toInt_le] at h1 h2
    exact Int32.toInt_inj.mp (by omega)
  rw [← kE4 e, e]
theorem kY1 {p : Int32} (h : p < 0) : (-1 : Int32) = F_key p := by rw [F_key, if_pos h]
theorem kY2 {p : Int32} (h : ¬ p < 11) : (-1 : Int32) = F_key p := by
  by_cases h0 : p < 0
  · rw [F_key, if_pos h0]
  · rw [F_key, if_neg h0, if_neg h]
theorem kY3 {p : Int32} (h1 : ¬ p < 0) (h2 : p < 11) : (1 : Int32) = F_key p := by rw [F_key, if_neg h1, if_pos h2]
theorem kA8 {p : Int32} (h0 : ¬ p = 0) (h1 : ¬ p = 1) (h2 : ¬ p = 2) (h3 : ¬ p = 3) (h4 : ¬ p = 4) (h5 : ¬ p = 5) (h6 : ¬ p = 6) (h7 : ¬ p = 7) : (-1 : Int32) = F_about p := by
  rw [F_about, if_neg]
  simp only [h0, h1, h2, h3, h4, h5, h6, h7, or_self, not_false_eq_true]
theorem kn_ne8 {p : Int32} (h0 : ¬ p = 0) (h1 : ¬ p = 1) (h2 : ¬ p = 2) (h3 : ¬ p = 3) (h4 : ¬ p = 4) (h5 : ¬ p = 5) (h6 : ¬ p = 6) (h7 : ¬ p = 7) : p.toInt < 0 ∨ 7 < p.toInt := by
  have n0 := lv_neT (a := 0) h0 (by decide)
  have n1 := lv_neT (a := 1) h1 (by decide)
  have n2 := lv_neT (a := 2) h2 (by decide)
  have n3 := lv_neT (a := 3) h3 (by decide)
  have n4 := lv_neT (a := 4) h4 (by decide)
  have n5 := lv_neT (a := 5) h5 (by decide)
  have n6 := lv_neT (a := 6) h6 (by decide)
  have n7 := lv_neT (a := 7) h7 (by decide)
  omega
/-! the classes' and array classes' numbers, out of the tables -/
theorem known_arr {args : Array Value} {s : State} {ty : FieldType} (h : (Cond.arrayClass ty).before args s = true) (hq : ∀ x, va_RA s x ty = (s.vm.findClass ("[" ++ ty.toString) = some x)) : ∃ cA : ClassId, ArrOfT s cA ty ∧ va_RA s cA ty := by
  obtain ⟨cA, kA, comp, h1, h2, h3⟩ := Cond.arrayClass_spec h
  exact ⟨cA, fun n z => ⟨fun k h => (by cases h), kA, h2, comp, h3⟩, by rw [hq]; exact h1⟩
set_option maxRecDepth 20000 in
theorem known_cls {args : Array Value} {s : State} (hts : ∀ w ∈ lw_tbl, w.before args s = true) : ∀ (k : Nat) (q : vw_C), vwCl[k]? = some q → ∃ (cC : ClassId) (iS : Nat → Nat), u_Kn s q.1 q.2.1 q.2.2 cC iS := by
  intro k q hq
  match k, hq with
  | 0, hq => cases hq; exact u_known hts inb_X0 (hts (.instantiable RX0 5) (List.mem_of_getElem? (i := 327) (by decide +kernel)))
  | 1, hq => cases hq; exact u_known hts inb_X1 (hts (.instantiable RX1 8) (List.mem_of_getElem? (i := 136) (by decide +kernel)))
  | 2, hq => cases hq; exact u_known hts inb_X3 (hts (.instantiable RX3 5) (List.mem_of_getElem? (i := 111) (by decide +kernel)))
  | 3, hq => cases hq; exact u_known hts inb_X4 (hts (.instantiable RX4 7) (List.mem_of_getElem? (i := 270) (by decide +kernel)))
  | 4, hq => cases hq; exact u_known hts inb_X5 (hts (.instantiable RX5 2) (List.mem_of_getElem? (i := 233) (by decide +kernel)))
  | 5, hq => cases hq; exact u_known hts inb_X6 (hts (.instantiable RX6 4) (List.mem_of_getElem? (i := 105) (by decide +kernel)))
  | 6, hq => cases hq; exact u_known hts inb_X7 (hts (.instantiable RX7 2) (List.mem_of_getElem? (i := 89) (by decide +kernel)))
  | 7, hq => cases hq; exact u_known hts inb_X8 (hts (.instantiable RX8 5) (List.mem_of_getElem? (i := 302) (by decide +kernel)))
  | 8, hq => cases hq; exact u_known hts inb_X9 (hts (.instantiable RX9 5) (List.mem_of_getElem? (i := 208) (by decide +kernel)))
  | 9, hq => cases hq; exact u_known hts inb_X10 (hts (.instantiable RX10 5) (List.mem_of_getElem? (i := 246) (by decide +kernel)))
  | 10, hq => cases hq; exact u_known hts inb_X11 (hts (.instantiable RX11 13) (List.mem_of_getElem? (i := 81) (by decide +kernel)))
  | 11, hq => cases hq; exact u_known hts inb_X12 (hts (.instantiable RX12 50) (List.mem_of_getElem? (i := 852) (by decide +kernel)))
  | k + 12, hq => simp [vwCl] at hq
theorem known_all {args : Array Value} {s : State} (hts : ∀ w ∈ lw_tbl, w.before args s = true) : ∃ (D : va_G) (cI cJ cZ cB : ClassId), va_K D vwCl (TY cI cJ cZ cB) s := by
  have h1 : ∀ k : Nat, ∃ z : ClassId × (Nat → Nat), ∀ q : vw_C, vwCl[k]? = some q → u_Kn s q.1 q.2.1 q.2.2 z.1 z.2 := by
    intro k
    cases hk : vwCl[k]? with
    | none => exact ⟨(0, fun _ => 0), fun q h => by cases h⟩
    | some q =>
      obtain ⟨cC, iS, h⟩ := known_cls hts k q hk
      exact ⟨(cC, iS), fun q' h' => by cases h'; exact h⟩
  obtain ⟨cI, i1, i2⟩ := known_arr (ty := .int) (hts (.arrayClass .int) (List.mem_of_getElem? (i := 103) (by decide +kernel))) (fun _ => rfl)
  obtain ⟨cJ, j1, j2⟩ := known_arr (ty := .long) (hts (.arrayClass .long) (List.mem_of_getElem? (i := 187) (by decide +kernel))) (fun _ => rfl)
  obtain ⟨cZ, z1, z2⟩ := known_arr (ty := .boolean) (hts (.arrayClass .boolean) (List.mem_of_getElem? (i := 188) (by decide +kernel))) (fun _ => rfl)
  obtain ⟨cB, b1, b2⟩ := known_arr (ty := .byte) (hts (.arrayClass .byte) (List.mem_of_getElem? (i := 1127) (by decide +kernel))) (fun _ => rfl)
  refine ⟨(fun k => (Classical.choose (h1 k)).1, fun k => (Classical.choose (h1 k)).2), cI, cJ, cZ, cB, fun k q hq => Classical.choose_spec (h1 k) q hq, fun k q hq => ?_⟩
  match k, hq with
  | 0, hq => cases hq; exact ⟨i1, i2⟩
  | 1, hq => cases hq; exact ⟨j1, j2⟩
  | 2, hq => cases hq; exact ⟨z1, z2⟩
  | 3, hq => cases hq; exact ⟨b1, b2⟩
  | k + 4, hq => simp [TY] at hq

