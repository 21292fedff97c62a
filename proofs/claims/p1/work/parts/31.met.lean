def o_X12_about : List Cond := [.fieldLink RX12 77 "EarTableModel" "columns" "[I", .fieldLink RX12 64 "EarTableModel" "bank" "I", .fieldLink RX12 74 "EarTableModel" "lines" "[I", .fieldLink RX12 70 "EarTableModel" "levels" "[I", .fieldLink RX12 113 "EarTableModel" "viewMany" "I", .fieldLink RX12 95 "EarTableModel" "changes" "I", .fieldLink RX12 98 "EarTableModel" "backs" "I", .fieldLink RX12 58 "EarTableModel" "taped" "I", .fieldLink RX12 101 "EarTableModel" "toldMany" "I"]
def u_X12_about : List Cond := .code yX12_about cX12_about 2 (some .int) :: (o_X12_about ++ (wsX120 ++ ([] : List Cond)))
theorem inw_X12_about_X12 : ∀ w ∈ wsX120, w ∈ u_X12_about := fun w h => List.mem_cons_of_mem _ (List.mem_append_right _ (List.mem_append_left _ h))
set_option maxRecDepth 20000 in
theorem good_X12_about : u_X12_about.all goodWord = true := by decide +kernel
set_option maxRecDepth 20000 in
theorem in_X12_about : ∀ w ∈ u_X12_about, w ∈ lw_tbl := ma_cons inc_X12_about (ma_app (ma_pos o_X12_about [993, 996, 992, 991, 1002, 1022, 1015, 978, 1012] (by decide +kernel)) (ma_app inb_X12 ma_nil))
set_option maxHeartbeats 4000000 in
set_option maxRecDepth 100000 in
theorem c_X12_about (l : Launch) (D : va_G) (cI cJ cZ cB : ClassId) (sz : Nat) (h0 : Nat) (h1 : Nat) (h2 : Nat) (h3 : Nat) (v0 : Value) (v1 : Value) (v2 : Value) (v3 : Value) (v4 : Value) (v5 : Value) (v6 : Value) (v7 : Value) (v8 : Value) (v9 : Value) (v10 : Value) (v11 : Value) (v12 : Value) (v13 : Value) (v14 : Value) (v15 : Value) (v16 : Value) (v17 : Value) (v18 : Value) (v19 : Value) (v20 : Value) (v21 : Value) (v22 : Value) (v23 : Value) (v24 : Value) (v25 : Value) (v26 : Value) (v27 : Value) (v28 : Value) (v29 : Value) (v30 : Value) (v31 : Value) (v32 : Value) (v33 : Value) (v34 : Value) (v35 : Value) (v36 : Value) (v37 : Value) (v38 : Value) (v39 : Value) (v40 : Value) (p1 : Int32) : Met l yX12_about u_X12_about ({ frames := 0, cells := 0, slots := 0, locals := 0 }) (va_Pc [.ref h0, .int p1] (kPre D cI cJ cZ cB [(h0, .inr (11, [v0, v1, .int 0, v2, v3, v4, v5, v6, v7, v8, v9, v10, v11, v12, v13, .ref h3, .ref h2, .ref h1, v14, v15, .int 0, v16, v17, v18, v19, v20, .int 0, v21, v22, v23, v24, v25, v26, v27, v28, v29, .int 0, v30, v31, .int 0, v32, v33, v34, v35, v36, v37, .int 0, v38, v39, v40])), (h1, .inl (cI, 2, .inl (fun _ => 0))), (h2, .inl (cI, 2, .inl (fun _ => 0))), (h3, .inl (cI, 2, .inl (fun _ => 0)))] sz)) (va_Qi (fun (r : Int32) (_ : Unit) => r = F_about p1) (kB D (fun (u : Unit) => [(h0, .inr (11, [v0, v1, .int 0, v2, v3, v4, v5, v6, v7, v8, v9, v10, v11, v12, v13, .ref h3, .ref h2, .ref h1, v14, v15, .int 0, v16, v17, v18, v19, v20, .int 0, v21, v22, v23, v24, v25, v26, v27, v28, v29, .int 0, v30, v31, .int 0, v32, v33, v34, v35, v36, v37, .int 0, v38, v39, v40])), (h1, .inl (cI, 2, .inl (fun _ => 0))), (h2, .inl (cI, 2, .inl (fun _ => 0))), (h3, .inl (cI, 2, .inl (fun _ => 0)))]) (va_A [(h0, .inr (11, [v0, v1, .int 0, v2, v3, v4, v5, v6, v7, v8, v9, v10, v11, v12, v13, .ref h3, .ref h2, .ref h1, v14, v15, .int 0, v16, v17, v18, v19, v20, .int 0, v21, v22, v23, v24, v25, v26, v27, v28, v29, .int 0, v30, v31, .int 0, v32, v33, v34, v35, v36, v37, .int 0, v38, v39, v40])), (h1, .inl (cI, 2, .inl (fun _ => 0))), (h2, .inl (cI, 2, .inl (fun _ => 0))), (h3, .inl (cI, 2, .inl (fun _ => 0)))] sz)) (va_A [(h0, .inr (11, [v0, v1, .int 0, v2, v3, v4, v5, v6, v7, v8, v9, v10, v11, v12, v13, .ref h3, .ref h2, .ref h1, v14, v15, .int 0, v16, v17, v18, v19, v20, .int 0, v21, v22, v23, v24, v25, v26, v27, v28, v29, .int 0, v30, v31, .int 0, v32, v33, v34, v35, v36, v37, .int 0, v38, v39, v40])), (h1, .inl (cI, 2, .inl (fun _ => 0))), (h2, .inl (cI, 2, .inl (fun _ => 0))), (h3, .inl (cI, 2, .inl (fun _ => 0)))] sz)) 0 0 (va_A [(h0, .inr (11, [v0, v1, .int 0, v2, v3, v4, v5, v6, v7, v8, v9, v10, v11, v12, v13, .ref h3, .ref h2, .ref h1, v14, v15, .int 0, v16, v17, v18, v19, v20, .int 0, v21, v22, v23, v24, v25, v26, v27, v28, v29, .int 0, v30, v31, .int 0, v32, v33, v34, v35, v36, v37, .int 0, v38, v39, v40])), (h1, .inl (cI, 2, .inl (fun _ => 0))), (h2, .inl (cI, 2, .inl (fun _ => 0))), (h3, .inl (cI, 2, .inl (fun _ => 0)))] sz) := by
  refine Met.ofW (cc := cX12_about) (maxL := 2) (ret := (some .int)) (by decide) rfl ?_
  intro p e s m args below meth c s₁ B hml hv
  obtain ⟨rfl, hsz, hP, hK, hN, hD0⟩ := hv
  have hx := B.exec
  have hb := B.bytes
  have hr := B.returns
  have hts := atoms_spec (ws := u_X12_about) B.pre
  have hown : s.vm.findClass RX12 = some m.cls := findClass_of_methodNamed B.named
  have hlocks := B.notSynchronized
  subst hsz
  have hD := hD0.self (sz := s.heap.size)
  generalize hAe : va_A [(h0, .inr (11, [v0, v1, .int 0, v2, v3, v4, v5, v6, v7, v8, v9, v10, v11, v12, v13, .ref h3, .ref h2, .ref h1, v14, v15, .int 0, v16, v17, v18, v19, v20, .int 0, v21, v22, v23, v24, v25, v26, v27, v28, v29, .int 0, v30, v31, .int 0, v32, v33, v34, v35, v36, v37, .int 0, v38, v39, v40])), (h1, .inl (cI, 2, .inl (fun _ => 0))), (h2, .inl (cI, 2, .inl (fun _ => 0))), (h3, .inl (cI, 2, .inl (fun _ => 0)))] s.heap.size = A at hD ⊢
  have hA : ∀ q : Nat, s.heap.size ≤ q → A q := fun q h => by rw [← hAe]; exact Or.inr h
  have hS : va_S A s.heap s.heap [] := va_S.rf
  have hP : va_P D vwCl [(h0, .inr (11, [v0, v1, .int 0, v2, v3, v4, v5, v6, v7, v8, v9, v10, v11, v12, v13, .ref h3, .ref h2, .ref h1, v14, v15, .int 0, v16, v17, v18, v19, v20, .int 0, v21, v22, v23, v24, v25, v26, v27, v28, v29, .int 0, v30, v31, .int 0, v32, v33, v34, v35, v36, v37, .int 0, v38, v39, v40])), (h1, .inl (cI, 2, .inl (fun _ => 0))), (h2, .inl (cI, 2, .inl (fun _ => 0))), (h3, .inl (cI, 2, .inl (fun _ => 0)))] s.heap := hP
  have hl := lv_entry ([.ref h0, .int p1]) (n := 2) (Nat.le_of_ble_eq_true rfl)
  rw [lg_entry_eq]
  generalize (lg_sl ([.ref h0, .int p1]) ++ List.replicate (2 - (lg_sl ([.ref h0, .int p1])).length) Slot.unset).toArray = ls at hl ⊢
  have hl : lv_has ls 2 [(0, .ref h0), (1, .int p1)] := hl
  obtain ⟨H, hHe⟩ : ∃ H, s.heap = H := ⟨_, rfl⟩
  have hP : va_P D vwCl [(h0, .inr (11, [v0, v1, .int 0, v2, v3, v4, v5, v6, v7, v8, v9, v10, v11, v12, v13, .ref h3, .ref h2, .ref h1, v14, v15, .int 0, v16, v17, v18, v19, v20, .int 0, v21, v22, v23, v24, v25, v26, v27, v28, v29, .int 0, v30, v31, .int 0, v32, v33, v34, v35, v36, v37, .int 0, v38, v39, v40])), (h1, .inl (cI, 2, .inl (fun _ => 0))), (h2, .inl (cI, 2, .inl (fun _ => 0))), (h3, .inl (cI, 2, .inl (fun _ => 0)))] H := by rw [← hHe]; exact hP
  have hS : va_S A s.heap H [] := by rw [← hHe]; exact hS
  refine kn_heap hHe ?_
  refine lv_iload_n hx hb dX12_about_0 rfl (lv_at hl 1 rfl) ?_
  by_cases c_793 : p1 = 0
  · skip
    refine lv_tableIn (off := 47) (tgt := 48) hx hb dX12_about_1 (by rw [c_793]; decide) (by rw [c_793]; decide) (by rw [c_793]; decide) (by decide) ?_
    refine lv_aload_n hx hb dX12_about_48 rfl (lv_at hl 0 rfl) ?_
    refine va_get (D := D) (ci := 11) (v := .ref h1) (C := RX12) (T := TX12) (N := 50) hx hb hts inw_X12_about_X12 hown hK hP 0 rfl rfl 17 (by decide) (hts (.fieldLink RX12 77 "EarTableModel" "columns" "[I") (by decide +kernel)) (fun _ h9 => h9) rfl dX12_about_49 ?_
    refine lv_aload_n hx hb dX12_about_52 rfl (lv_at hl 0 rfl) ?_
    refine va_get (D := D) (ci := 11) (v := .int 0) (C := RX12) (T := TX12) (N := 50) hx hb hts inw_X12_about_X12 hown hK hP 0 rfl rfl 20 (by decide) (hts (.fieldLink RX12 64 "EarTableModel" "bank" "I") (by decide +kernel)) (fun _ h9 => h9) rfl dX12_about_53 ?_
    refine va_iald hx hb hK hP 1 0 rfl rfl (kn_in (by decide)) dX12_about_56 ?_
    refine kn_top (y := 0) (by decide +kernel) ?_
    have hP9 := hP.sub (ws' := [(h0, .inr (11, [v0, v1, .int 0, v2, v3, v4, v5, v6, v7, v8, v9, v10, v11, v12, v13, .ref h3, .ref h2, .ref h1, v14, v15, .int 0, v16, v17, v18, v19, v20, .int 0, v21, v22, v23, v24, v25, v26, v27, v28, v29, .int 0, v30, v31, .int 0, v32, v33, v34, v35, v36, v37, .int 0, v38, v39, v40])), (h1, .inl (cI, 2, .inl (fun _ => 0))), (h2, .inl (cI, 2, .inl (fun _ => 0))), (h3, .inl (cI, 2, .inl (fun _ => 0)))]) [0, 1, 2, 3] rfl
    have hD9 := hD.sub (ws' := [(h0, .inr (11, [v0, v1, .int 0, v2, v3, v4, v5, v6, v7, v8, v9, v10, v11, v12, v13, .ref h3, .ref h2, .ref h1, v14, v15, .int 0, v16, v17, v18, v19, v20, .int 0, v21, v22, v23, v24, v25, v26, v27, v28, v29, .int 0, v30, v31, .int 0, v32, v33, v34, v35, v36, v37, .int 0, v38, v39, v40])), (h1, .inl (cI, 2, .inl (fun _ => 0))), (h2, .inl (cI, 2, .inl (fun _ => 0))), (h3, .inl (cI, 2, .inl (fun _ => 0)))]) [0, 1, 2, 3] (by decide) rfl
    exact W.iret (v := 0) hx hb hr (fun t ht hW => ⟨⟨0, (), rfl, (by rw [c_793]; decide), by rw [ht]; exact hP9, hD9⟩, hS.F ht⟩) hS.2.2 dX12_about_57
  · skip
    by_cases c_794 : p1 = 1
    · skip
      refine lv_tableIn (off := 57) (tgt := 58) hx hb dX12_about_1 (by rw [c_794]; decide) (by rw [c_794]; decide) (by rw [c_794]; decide) (by decide) ?_
      refine lv_aload_n hx hb dX12_about_58 rfl (lv_at hl 0 rfl) ?_
      refine va_get (D := D) (ci := 11) (v := .ref h2) (C := RX12) (T := TX12) (N := 50) hx hb hts inw_X12_about_X12 hown hK hP 0 rfl rfl 16 (by decide) (hts (.fieldLink RX12 74 "EarTableModel" "lines" "[I") (by decide +kernel)) (fun _ h9 => h9) rfl dX12_about_59 ?_
      refine lv_aload_n hx hb dX12_about_62 rfl (lv_at hl 0 rfl) ?_
      refine va_get (D := D) (ci := 11) (v := .int 0) (C := RX12) (T := TX12) (N := 50) hx hb hts inw_X12_about_X12 hown hK hP 0 rfl rfl 20 (by decide) (hts (.fieldLink RX12 64 "EarTableModel" "bank" "I") (by decide +kernel)) (fun _ h9 => h9) rfl dX12_about_63 ?_
      refine va_iald hx hb hK hP 2 0 rfl rfl (kn_in (by decide)) dX12_about_66 ?_
      refine kn_top (y := 0) (by decide +kernel) ?_
      have hP9 := hP.sub (ws' := [(h0, .inr (11, [v0, v1, .int 0, v2, v3, v4, v5, v6, v7, v8, v9, v10, v11, v12, v13, .ref h3, .ref h2, .ref h1, v14, v15, .int 0, v16, v17, v18, v19, v20, .int 0, v21, v22, v23, v24, v25, v26, v27, v28, v29, .int 0, v30, v31, .int 0, v32, v33, v34, v35, v36, v37, .int 0, v38, v39, v40])), (h1, .inl (cI, 2, .inl (fun _ => 0))), (h2, .inl (cI, 2, .inl (fun _ => 0))), (h3, .inl (cI, 2, .inl (fun _ => 0)))]) [0, 1, 2, 3] rfl
      have hD9 := hD.sub (ws' := [(h0, .inr (11, [v0, v1, .int 0, v2, v3, v4, v5, v6, v7, v8, v9, v10, v11, v12, v13, .ref h3, .ref h2, .ref h1, v14, v15, .int 0, v16, v17, v18, v19, v20, .int 0, v21, v22, v23, v24, v25, v26, v27, v28, v29, .int 0, v30, v31, .int 0, v32, v33, v34, v35, v36, v37, .int 0, v38, v39, v40])), (h1, .inl (cI, 2, .inl (fun _ => 0))), (h2, .inl (cI, 2, .inl (fun _ => 0))), (h3, .inl (cI, 2, .inl (fun _ => 0)))]) [0, 1, 2, 3] (by decide) rfl
      exact W.iret (v := 0) hx hb hr (fun t ht hW => ⟨⟨0, (), rfl, (by rw [c_794]; decide), by rw [ht]; exact hP9, hD9⟩, hS.F ht⟩) hS.2.2 dX12_about_67
    · skip
      by_cases c_795 : p1 = 2
      · skip
        refine lv_tableIn (off := 67) (tgt := 68) hx hb dX12_about_1 (by rw [c_795]; decide) (by rw [c_795]; decide) (by rw [c_795]; decide) (by decide) ?_
        refine lv_aload_n hx hb dX12_about_68 rfl (lv_at hl 0 rfl) ?_
        refine va_get (D := D) (ci := 11) (v := .ref h3) (C := RX12) (T := TX12) (N := 50) hx hb hts inw_X12_about_X12 hown hK hP 0 rfl rfl 15 (by decide) (hts (.fieldLink RX12 70 "EarTableModel" "levels" "[I") (by decide +kernel)) (fun _ h9 => h9) rfl dX12_about_69 ?_
        refine lv_aload_n hx hb dX12_about_72 rfl (lv_at hl 0 rfl) ?_
        refine va_get (D := D) (ci := 11) (v := .int 0) (C := RX12) (T := TX12) (N := 50) hx hb hts inw_X12_about_X12 hown hK hP 0 rfl rfl 20 (by decide) (hts (.fieldLink RX12 64 "EarTableModel" "bank" "I") (by decide +kernel)) (fun _ h9 => h9) rfl dX12_about_73 ?_
        refine va_iald hx hb hK hP 3 0 rfl rfl (kn_in (by decide)) dX12_about_76 ?_
        refine kn_top (y := 0) (by decide +kernel) ?_
        have hP9 := hP.sub (ws' := [(h0, .inr (11, [v0, v1, .int 0, v2, v3, v4, v5, v6, v7, v8, v9, v10, v11, v12, v13, .ref h3, .ref h2, .ref h1, v14, v15, .int 0, v16, v17, v18, v19, v20, .int 0, v21, v22, v23, v24, v25, v26, v27, v28, v29, .int 0, v30, v31, .int 0, v32, v33, v34, v35, v36, v37, .int 0, v38, v39, v40])), (h1, .inl (cI, 2, .inl (fun _ => 0))), (h2, .inl (cI, 2, .inl (fun _ => 0))), (h3, .inl (cI, 2, .inl (fun _ => 0)))]) [0, 1, 2, 3] rfl
        have hD9 := hD.sub (ws' := [(h0, .inr (11, [v0, v1, .int 0, v2, v3, v4, v5, v6, v7, v8, v9, v10, v11, v12, v13, .ref h3, .ref h2, .ref h1, v14, v15, .int 0, v16, v17, v18, v19, v20, .int 0, v21, v22, v23, v24, v25, v26, v27, v28, v29, .int 0, v30, v31, .int 0, v32, v33, v34, v35, v36, v37, .int 0, v38, v39, v40])), (h1, .inl (cI, 2, .inl (fun _ => 0))), (h2, .inl (cI, 2, .inl (fun _ => 0))), (h3, .inl (cI, 2, .inl (fun _ => 0)))]) [0, 1, 2, 3] (by decide) rfl
        exact W.iret (v := 0) hx hb hr (fun t ht hW => ⟨⟨0, (), rfl, (by rw [c_795]; decide), by rw [ht]; exact hP9, hD9⟩, hS.F ht⟩) hS.2.2 dX12_about_77
      · skip
        by_cases c_796 : p1 = 3
        · skip
          refine lv_tableIn (off := 77) (tgt := 78) hx hb dX12_about_1 (by rw [c_796]; decide) (by rw [c_796]; decide) (by rw [c_796]; decide) (by decide) ?_
          refine lv_aload_n hx hb dX12_about_78 rfl (lv_at hl 0 rfl) ?_
          refine va_get (D := D) (ci := 11) (v := .int 0) (C := RX12) (T := TX12) (N := 50) hx hb hts inw_X12_about_X12 hown hK hP 0 rfl rfl 26 (by decide) (hts (.fieldLink RX12 113 "EarTableModel" "viewMany" "I") (by decide +kernel)) (fun _ h9 => h9) rfl dX12_about_79 ?_
          have hP9 := hP.sub (ws' := [(h0, .inr (11, [v0, v1, .int 0, v2, v3, v4, v5, v6, v7, v8, v9, v10, v11, v12, v13, .ref h3, .ref h2, .ref h1, v14, v15, .int 0, v16, v17, v18, v19, v20, .int 0, v21, v22, v23, v24, v25, v26, v27, v28, v29, .int 0, v30, v31, .int 0, v32, v33, v34, v35, v36, v37, .int 0, v38, v39, v40])), (h1, .inl (cI, 2, .inl (fun _ => 0))), (h2, .inl (cI, 2, .inl (fun _ => 0))), (h3, .inl (cI, 2, .inl (fun _ => 0)))]) [0, 1, 2, 3] rfl
          have hD9 := hD.sub (ws' := [(h0, .inr (11, [v0, v1, .int 0, v2, v3, v4, v5, v6, v7, v8, v9, v10, v11, v12, v13, .ref h3, .ref h2, .ref h1, v14, v15, .int 0, v16, v17, v18, v19, v20, .int 0, v21, v22, v23, v24, v25, v26, v27, v28, v29, .int 0, v30, v31, .int 0, v32, v33, v34, v35, v36, v37, .int 0, v38, v39, v40])), (h1, .inl (cI, 2, .inl (fun _ => 0))), (h2, .inl (cI, 2, .inl (fun _ => 0))), (h3, .inl (cI, 2, .inl (fun _ => 0)))]) [0, 1, 2, 3] (by decide) rfl
          exact W.iret (v := 0) hx hb hr (fun t ht hW => ⟨⟨0, (), rfl, (by rw [c_796]; decide), by rw [ht]; exact hP9, hD9⟩, hS.F ht⟩) hS.2.2 dX12_about_82
        · skip
          by_cases c_797 : p1 = 4
          · skip
            refine lv_tableIn (off := 82) (tgt := 83) hx hb dX12_about_1 (by rw [c_797]; decide) (by rw [c_797]; decide) (by rw [c_797]; decide) (by decide) ?_
            refine lv_aload_n hx hb dX12_about_83 rfl (lv_at hl 0 rfl) ?_
            refine va_get (D := D) (ci := 11) (v := .int 0) (C := RX12) (T := TX12) (N := 50) hx hb hts inw_X12_about_X12 hown hK hP 0 rfl rfl 46 (by decide) (hts (.fieldLink RX12 95 "EarTableModel" "changes" "I") (by decide +kernel)) (fun _ h9 => h9) rfl dX12_about_84 ?_
            have hP9 := hP.sub (ws' := [(h0, .inr (11, [v0, v1, .int 0, v2, v3, v4, v5, v6, v7, v8, v9, v10, v11, v12, v13, .ref h3, .ref h2, .ref h1, v14, v15, .int 0, v16, v17, v18, v19, v20, .int 0, v21, v22, v23, v24, v25, v26, v27, v28, v29, .int 0, v30, v31, .int 0, v32, v33, v34, v35, v36, v37, .int 0, v38, v39, v40])), (h1, .inl (cI, 2, .inl (fun _ => 0))), (h2, .inl (cI, 2, .inl (fun _ => 0))), (h3, .inl (cI, 2, .inl (fun _ => 0)))]) [0, 1, 2, 3] rfl
            have hD9 := hD.sub (ws' := [(h0, .inr (11, [v0, v1, .int 0, v2, v3, v4, v5, v6, v7, v8, v9, v10, v11, v12, v13, .ref h3, .ref h2, .ref h1, v14, v15, .int 0, v16, v17, v18, v19, v20, .int 0, v21, v22, v23, v24, v25, v26, v27, v28, v29, .int 0, v30, v31, .int 0, v32, v33, v34, v35, v36, v37, .int 0, v38, v39, v40])), (h1, .inl (cI, 2, .inl (fun _ => 0))), (h2, .inl (cI, 2, .inl (fun _ => 0))), (h3, .inl (cI, 2, .inl (fun _ => 0)))]) [0, 1, 2, 3] (by decide) rfl
            exact W.iret (v := 0) hx hb hr (fun t ht hW => ⟨⟨0, (), rfl, (by rw [c_797]; decide), by rw [ht]; exact hP9, hD9⟩, hS.F ht⟩) hS.2.2 dX12_about_87
          · skip
            by_cases c_798 : p1 = 5
            · skip
              refine lv_tableIn (off := 87) (tgt := 88) hx hb dX12_about_1 (by rw [c_798]; decide) (by rw [c_798]; decide) (by rw [c_798]; decide) (by decide) ?_
              refine lv_aload_n hx hb dX12_about_88 rfl (lv_at hl 0 rfl) ?_
              refine va_get (D := D) (ci := 11) (v := .int 0) (C := RX12) (T := TX12) (N := 50) hx hb hts inw_X12_about_X12 hown hK hP 0 rfl rfl 39 (by decide) (hts (.fieldLink RX12 98 "EarTableModel" "backs" "I") (by decide +kernel)) (fun _ h9 => h9) rfl dX12_about_89 ?_
              have hP9 := hP.sub (ws' := [(h0, .inr (11, [v0, v1, .int 0, v2, v3, v4, v5, v6, v7, v8, v9, v10, v11, v12, v13, .ref h3, .ref h2, .ref h1, v14, v15, .int 0, v16, v17, v18, v19, v20, .int 0, v21, v22, v23, v24, v25, v26, v27, v28, v29, .int 0, v30, v31, .int 0, v32, v33, v34, v35, v36, v37, .int 0, v38, v39, v40])), (h1, .inl (cI, 2, .inl (fun _ => 0))), (h2, .inl (cI, 2, .inl (fun _ => 0))), (h3, .inl (cI, 2, .inl (fun _ => 0)))]) [0, 1, 2, 3] rfl
              have hD9 := hD.sub (ws' := [(h0, .inr (11, [v0, v1, .int 0, v2, v3, v4, v5, v6, v7, v8, v9, v10, v11, v12, v13, .ref h3, .ref h2, .ref h1, v14, v15, .int 0, v16, v17, v18, v19, v20, .int 0, v21, v22, v23, v24, v25, v26, v27, v28, v29, .int 0, v30, v31, .int 0, v32, v33, v34, v35, v36, v37, .int 0, v38, v39, v40])), (h1, .inl (cI, 2, .inl (fun _ => 0))), (h2, .inl (cI, 2, .inl (fun _ => 0))), (h3, .inl (cI, 2, .inl (fun _ => 0)))]) [0, 1, 2, 3] (by decide) rfl
              exact W.iret (v := 0) hx hb hr (fun t ht hW => ⟨⟨0, (), rfl, (by rw [c_798]; decide), by rw [ht]; exact hP9, hD9⟩, hS.F ht⟩) hS.2.2 dX12_about_92
            · skip
              by_cases c_799 : p1 = 6
              · skip
                refine lv_tableIn (off := 92) (tgt := 93) hx hb dX12_about_1 (by rw [c_799]; decide) (by rw [c_799]; decide) (by rw [c_799]; decide) (by decide) ?_
                refine lv_aload_n hx hb dX12_about_93 rfl (lv_at hl 0 rfl) ?_
                refine va_get (D := D) (ci := 11) (v := .int 0) (C := RX12) (T := TX12) (N := 50) hx hb hts inw_X12_about_X12 hown hK hP 0 rfl rfl 2 (by decide) (hts (.fieldLink RX12 58 "EarTableModel" "taped" "I") (by decide +kernel)) (fun _ h9 => h9) rfl dX12_about_94 ?_
                have hP9 := hP.sub (ws' := [(h0, .inr (11, [v0, v1, .int 0, v2, v3, v4, v5, v6, v7, v8, v9, v10, v11, v12, v13, .ref h3, .ref h2, .ref h1, v14, v15, .int 0, v16, v17, v18, v19, v20, .int 0, v21, v22, v23, v24, v25, v26, v27, v28, v29, .int 0, v30, v31, .int 0, v32, v33, v34, v35, v36, v37, .int 0, v38, v39, v40])), (h1, .inl (cI, 2, .inl (fun _ => 0))), (h2, .inl (cI, 2, .inl (fun _ => 0))), (h3, .inl (cI, 2, .inl (fun _ => 0)))]) [0, 1, 2, 3] rfl
                have hD9 := hD.sub (ws' := [(h0, .inr (11, [v0, v1, .int 0, v2, v3, v4, v5, v6, v7, v8, v9, v10, v11, v12, v13, .ref h3, .ref h2, .ref h1, v14, v15, .int 0, v16, v17, v18, v19, v20, .int 0, v21, v22, v23, v24, v25, v26, v27, v28, v29, .int 0, v30, v31, .int 0, v32, v33, v34, v35, v36, v37, .int 0, v38, v39, v40])), (h1, .inl (cI, 2, .inl (fun _ => 0))), (h2, .inl (cI, 2, .inl (fun _ => 0))), (h3, .inl (cI, 2, .inl (fun _ => 0)))]) [0, 1, 2, 3] (by decide) rfl
                exact W.iret (v := 0) hx hb hr (fun t ht hW => ⟨⟨0, (), rfl, (by rw [c_799]; decide), by rw [ht]; exact hP9, hD9⟩, hS.F ht⟩) hS.2.2 dX12_about_97
              · skip
                by_cases c_800 : p1 = 7
                · skip
                  refine lv_tableIn (off := 97) (tgt := 98) hx hb dX12_about_1 (by rw [c_800]; decide) (by rw [c_800]; decide) (by rw [c_800]; decide) (by decide) ?_
                  refine lv_aload_n hx hb dX12_about_98 rfl (lv_at hl 0 rfl) ?_
                  refine va_get (D := D) (ci := 11) (v := .int 0) (C := RX12) (T := TX12) (N := 50) hx hb hts inw_X12_about_X12 hown hK hP 0 rfl rfl 36 (by decide) (hts (.fieldLink RX12 101 "EarTableModel" "toldMany" "I") (by decide +kernel)) (fun _ h9 => h9) rfl dX12_about_99 ?_
                  have hP9 := hP.sub (ws' := [(h0, .inr (11, [v0, v1, .int 0, v2, v3, v4, v5, v6, v7, v8, v9, v10, v11, v12, v13, .ref h3, .ref h2, .ref h1, v14, v15, .int 0, v16, v17, v18, v19, v20, .int 0, v21, v22, v23, v24, v25, v26, v27, v28, v29, .int 0, v30, v31, .int 0, v32, v33, v34, v35, v36, v37, .int 0, v38, v39, v40])), (h1, .inl (cI, 2, .inl (fun _ => 0))), (h2, .inl (cI, 2, .inl (fun _ => 0))), (h3, .inl (cI, 2, .inl (fun _ => 0)))]) [0, 1, 2, 3] rfl
                  have hD9 := hD.sub (ws' := [(h0, .inr (11, [v0, v1, .int 0, v2, v3, v4, v5, v6, v7, v8, v9, v10, v11, v12, v13, .ref h3, .ref h2, .ref h1, v14, v15, .int 0, v16, v17, v18, v19, v20, .int 0, v21, v22, v23, v24, v25, v26, v27, v28, v29, .int 0, v30, v31, .int 0, v32, v33, v34, v35, v36, v37, .int 0, v38, v39, v40])), (h1, .inl (cI, 2, .inl (fun _ => 0))), (h2, .inl (cI, 2, .inl (fun _ => 0))), (h3, .inl (cI, 2, .inl (fun _ => 0)))]) [0, 1, 2, 3] (by decide) rfl
                  exact W.iret (v := 0) hx hb hr (fun t ht hW => ⟨⟨0, (), rfl, (by rw [c_800]; decide), by rw [ht]; exact hP9, hD9⟩, hS.F ht⟩) hS.2.2 dX12_about_102
                · skip
                  refine lv_tableOut (tgt := 103) hx hb dX12_about_1 (kn_ne8 c_793 c_794 c_795 c_796 c_797 c_798 c_799 c_800) (by decide) ?_
                  refine lv_iconst (v := (-1)) hx hb dX12_about_103 (by decide) ?_
                  have hP9 := hP.sub (ws' := [(h0, .inr (11, [v0, v1, .int 0, v2, v3, v4, v5, v6, v7, v8, v9, v10, v11, v12, v13, .ref h3, .ref h2, .ref h1, v14, v15, .int 0, v16, v17, v18, v19, v20, .int 0, v21, v22, v23, v24, v25, v26, v27, v28, v29, .int 0, v30, v31, .int 0, v32, v33, v34, v35, v36, v37, .int 0, v38, v39, v40])), (h1, .inl (cI, 2, .inl (fun _ => 0))), (h2, .inl (cI, 2, .inl (fun _ => 0))), (h3, .inl (cI, 2, .inl (fun _ => 0)))]) [0, 1, 2, 3] rfl
                  have hD9 := hD.sub (ws' := [(h0, .inr (11, [v0, v1, .int 0, v2, v3, v4, v5, v6, v7, v8, v9, v10, v11, v12, v13, .ref h3, .ref h2, .ref h1, v14, v15, .int 0, v16, v17, v18, v19, v20, .int 0, v21, v22, v23, v24, v25, v26, v27, v28, v29, .int 0, v30, v31, .int 0, v32, v33, v34, v35, v36, v37, .int 0, v38, v39, v40])), (h1, .inl (cI, 2, .inl (fun _ => 0))), (h2, .inl (cI, 2, .inl (fun _ => 0))), (h3, .inl (cI, 2, .inl (fun _ => 0)))]) [0, 1, 2, 3] (by decide) rfl
                  exact W.iret (v := (-1)) hx hb hr (fun t ht hW => ⟨⟨(-1), (), rfl, (kA8 c_793 c_794 c_795 c_796 c_797 c_798 c_799 c_800), by rw [ht]; exact hP9, hD9⟩, hS.F ht⟩) hS.2.2 dX12_about_104
