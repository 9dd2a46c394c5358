set_option maxHeartbeats 4000000 in
set_option maxRecDepth 100000 in
theorem c_G_isNode (l : Launch) (dC : Nat → ClassId) (dI : Nat → Nat → Nat) (qg : Nat) (ao : Nat) (ai : Nat) (an : Nat) (p0 : Int32) (sz : Nat) : Met l ({ cls := "StrongParts$Graph", name := "isNode", desc := "(I)Z" } : Jvm.MethodName) (ww ({ cls := "StrongParts$Graph", name := "isNode", desc := "(I)Z" } : Jvm.MethodName) prog_2_method_3_code 2 (some .boolean)) ({ frames := 0, cells := 0, slots := 0, locals := 0 }) (va_Pc [.ref qg, .int p0] (cPre (dC, dI) [(qg, .inr (0, [.ref ao, .ref ai, .ref an, .int 0, .int 0]))] [] sz)) (va_Qi (fun (r : Int32) (_ : Unit) => r = 0) (cEnd (dC, dI) [(qg, .inr (0, [.ref ao, .ref ai, .ref an, .int 0, .int 0]))] [] (va_A [(qg, .inr (0, [.ref ao, .ref ai, .ref an, .int 0, .int 0]))] sz)) (va_A [(qg, .inr (0, [.ref ao, .ref ai, .ref an, .int 0, .int 0]))] sz)) 0 0 (va_A [(qg, .inr (0, [.ref ao, .ref ai, .ref an, .int 0, .int 0]))] sz) := by
  refine Met.ofW (cc := prog_2_method_3_code) (maxL := 2) (ret := (some .boolean)) (by decide) rfl ?_
  intro p e s m args below meth c s₁ B hml hv
  obtain ⟨rfl, hsz, hP, hK, hD0, hN⟩ := hv
  have hx := B.exec
  have hb := B.bytes
  have hr := B.returns
  have hts := ww_hts (atoms_spec (ws := ww ({ cls := "StrongParts$Graph", name := "isNode", desc := "(I)Z" } : Jvm.MethodName) prog_2_method_3_code 2 (some .boolean)) B.pre)
  have hown : s.vm.findClass "StrongParts$Graph" = some m.cls := findClass_of_methodNamed B.named
  have hlocks := B.notSynchronized
  subst hsz
  have hD := hD0.self (sz := s.heap.size)
  generalize hAe : va_A [(qg, .inr (0, [.ref ao, .ref ai, .ref an, .int 0, .int 0]))] s.heap.size = A at hD ⊢
  have hA : ∀ q : Nat, s.heap.size ≤ q → A q := fun q h => by rw [← hAe]; exact Or.inr h
  have hS : va_S A s.heap s.heap [] := va_S.rf
  have hP : va_P (dC, dI) classes [(qg, .inr (0, [.ref ao, .ref ai, .ref an, .int 0, .int 0]))] s.heap := hP
  have hl := lv_entry ([.ref qg, .int p0]) (n := 2) (Nat.le_of_ble_eq_true rfl)
  rw [lg_entry_eq]
  generalize (lg_sl ([.ref qg, .int p0]) ++ List.replicate (2 - (lg_sl ([.ref qg, .int p0])).length) Slot.unset).toArray = ls at hl ⊢
  have hl : lv_has ls 2 [(0, .ref qg), (1, .int p0)] := hl
  refine lv_iload_n hx hb d_p2_3_0 rfl (lv_at hl 1 rfl) ?_
  refine lv_if_lt (tgt := 16) hx hb d_p2_3_1 (by decide) (fun c_1 => ?_) (fun c_1 => ?_)
  · refine lv_iconst (v := 0) hx hb d_p2_3_16 (by decide) ?_
    have hP9 := hP.sub (ws' := [(qg, .inr (0, [.ref ao, .ref ai, .ref an, .int 0, .int 0]))]) [0] rfl
    have hD9 := hD.sub (ws' := [(qg, .inr (0, [.ref ao, .ref ai, .ref an, .int 0, .int 0]))]) [0] (by decide) rfl
    have hK9 := hK.sub (tys' := []) [] rfl
    exact W.zret (v := 0) hx hb hr rfl (fun t ht hW => ⟨⟨0, (), rfl, rfl, cEnd_mk hP9 hK9 hD9 ht hW⟩, hS.F ht⟩) hS.2.2 d_p2_3_17
  · refine lv_iload_n hx hb d_p2_3_4 rfl (lv_at hl 1 rfl) ?_
    refine lv_aload_n hx hb d_p2_3_5 rfl (lv_at hl 0 rfl) ?_
    refine va_get (D := (dC, dI)) (ci := 0) (v := .int 0) (C := "StrongParts$Graph") (T := T_0) (N := 5) hx hb hts in_0 hown hK hP 0 rfl rfl 3 (by decide) (hts _ tw_87) (fun _ h9 => h9) rfl d_p2_3_6 ?_
    refine lv_icmp_ge (tgt := 16) hx hb d_p2_3_9 (by decide) (fun c_9 => ?_) (fun c_9 => absurd (Int32.not_lt.mp c_1) c_9)
    refine lv_iconst (v := 0) hx hb d_p2_3_16 (by decide) ?_
    have hP9 := hP.sub (ws' := [(qg, .inr (0, [.ref ao, .ref ai, .ref an, .int 0, .int 0]))]) [0] rfl
    have hD9 := hD.sub (ws' := [(qg, .inr (0, [.ref ao, .ref ai, .ref an, .int 0, .int 0]))]) [0] (by decide) rfl
    have hK9 := hK.sub (tys' := []) [] rfl
    exact W.zret (v := 0) hx hb hr rfl (fun t ht hW => ⟨⟨0, (), rfl, rfl, cEnd_mk hP9 hK9 hD9 ht hW⟩, hS.F ht⟩) hS.2.2 d_p2_3_17

set_option maxHeartbeats 4000000 in
set_option maxRecDepth 100000 in
theorem c_G_all (l : Launch) (dC : Nat → ClassId) (dI : Nat → Nat → Nat) (qg : Nat) (ao : Nat) (ai : Nat) (an : Nat) (sz : Nat) : Met l ({ cls := "StrongParts$Graph", name := "all", desc := "()I" } : Jvm.MethodName) (ww ({ cls := "StrongParts$Graph", name := "all", desc := "()I" } : Jvm.MethodName) prog_2_method_4_code 1 (some .int)) ({ frames := 0, cells := 0, slots := 0, locals := 0 }) (va_Pc [.ref qg] (cPre (dC, dI) [(qg, .inr (0, [.ref ao, .ref ai, .ref an, .int 0, .int 0]))] [] sz)) (va_Qi (fun (r : Int32) (_ : Unit) => r = 0) (cEnd (dC, dI) [(qg, .inr (0, [.ref ao, .ref ai, .ref an, .int 0, .int 0]))] [] (va_A [(qg, .inr (0, [.ref ao, .ref ai, .ref an, .int 0, .int 0]))] sz)) (va_A [(qg, .inr (0, [.ref ao, .ref ai, .ref an, .int 0, .int 0]))] sz)) 0 0 (va_A [(qg, .inr (0, [.ref ao, .ref ai, .ref an, .int 0, .int 0]))] sz) := by
  refine Met.ofW (cc := prog_2_method_4_code) (maxL := 1) (ret := (some .int)) (by decide) rfl ?_
  intro p e s m args below meth c s₁ B hml hv
  obtain ⟨rfl, hsz, hP, hK, hD0, hN⟩ := hv
  have hx := B.exec
  have hb := B.bytes
  have hr := B.returns
  have hts := ww_hts (atoms_spec (ws := ww ({ cls := "StrongParts$Graph", name := "all", desc := "()I" } : Jvm.MethodName) prog_2_method_4_code 1 (some .int)) B.pre)
  have hown : s.vm.findClass "StrongParts$Graph" = some m.cls := findClass_of_methodNamed B.named
  have hlocks := B.notSynchronized
  subst hsz
  have hD := hD0.self (sz := s.heap.size)
  generalize hAe : va_A [(qg, .inr (0, [.ref ao, .ref ai, .ref an, .int 0, .int 0]))] s.heap.size = A at hD ⊢
  have hA : ∀ q : Nat, s.heap.size ≤ q → A q := fun q h => by rw [← hAe]; exact Or.inr h
  have hS : va_S A s.heap s.heap [] := va_S.rf
  have hP : va_P (dC, dI) classes [(qg, .inr (0, [.ref ao, .ref ai, .ref an, .int 0, .int 0]))] s.heap := hP
  have hl := lv_entry ([.ref qg]) (n := 1) (Nat.le_of_ble_eq_true rfl)
  rw [lg_entry_eq]
  generalize (lg_sl ([.ref qg]) ++ List.replicate (1 - (lg_sl ([.ref qg])).length) Slot.unset).toArray = ls at hl ⊢
  have hl : lv_has ls 1 [(0, .ref qg)] := hl
  refine lv_iconst (v := 1) hx hb d_p2_4_0 (by decide) ?_
  refine lv_aload_n hx hb d_p2_4_1 rfl (lv_at hl 0 rfl) ?_
  refine va_get (D := (dC, dI)) (ci := 0) (v := .int 0) (C := "StrongParts$Graph") (T := T_0) (N := 5) hx hb hts in_0 hown hK hP 0 rfl rfl 3 (by decide) (hts _ tw_87) (fun _ h9 => h9) rfl d_p2_4_2 ?_
  refine lv_ishl hx hb d_p2_4_5 ?_
  refine lv_topi (fun z_1 ez_1 => ?_)
  obtain rfl : z_1 = (1 : Int32) := ez_1.trans (by decide)
  refine lv_iconst (v := 1) hx hb d_p2_4_6 (by decide) ?_
  refine lv_isub hx hb d_p2_4_7 ?_
  refine lv_topi (fun z_2 ez_2 => ?_)
  obtain rfl : z_2 = (0 : Int32) := ez_2.trans (by decide)
  have hP9 := hP.sub (ws' := [(qg, .inr (0, [.ref ao, .ref ai, .ref an, .int 0, .int 0]))]) [0] rfl
  have hD9 := hD.sub (ws' := [(qg, .inr (0, [.ref ao, .ref ai, .ref an, .int 0, .int 0]))]) [0] (by decide) rfl
  have hK9 := hK.sub (tys' := []) [] rfl
  exact W.iret (v := 0) hx hb hr (fun t ht hW => ⟨⟨0, (), rfl, rfl, cEnd_mk hP9 hK9 hD9 ht hW⟩, hS.F ht⟩) hS.2.2 d_p2_4_8

set_option maxHeartbeats 4000000 in
set_option maxRecDepth 100000 in
theorem c_G_empty (l : Launch) (dC : Nat → ClassId) (dI : Nat → Nat → Nat) (qg : Nat) (ao : Nat) (ai : Nat) (an : Nat) (ko : ClassId) (fo : Nat → Int32) (ki : ClassId) (fi : Nat → Int32) (kn : ClassId) (fn_ : Nat → Int32) (sz : Nat) : Met l ({ cls := "StrongParts$Graph", name := "empty", desc := "()V" } : Jvm.MethodName) (ww ({ cls := "StrongParts$Graph", name := "empty", desc := "()V" } : Jvm.MethodName) prog_2_method_2_code 1 none) ({ frames := 1, cells := 0, slots := 0, locals := 23 }) (va_Pc [.ref qg] (cPre (dC, dI) [(qg, .inr (0, [.ref ao, .ref ai, .ref an, .int 0, .int 0])), (ao, .inl (ko, 15, .inl fo)), (ai, .inl (ki, 15, .inl fi)), (an, .inl (kn, 15, .inl fn_))] [(ko, .int), (ki, .int), (kn, .int)] sz)) (va_Qv (fun _ : Unit => True) (cEnd (dC, dI) [] [] (va_A [(qg, .inr (0, [.ref ao, .ref ai, .ref an, .int 0, .int 0])), (ao, .inl (ko, 15, .inl fo)), (ai, .inl (ki, 15, .inl fi)), (an, .inl (kn, 15, .inl fn_))] sz)) (va_A [(qg, .inr (0, [.ref ao, .ref ai, .ref an, .int 0, .int 0])), (ao, .inl (ko, 15, .inl fo)), (ai, .inl (ki, 15, .inl fi)), (an, .inl (kn, 15, .inl fn_))] sz)) 0 0 (va_A [(qg, .inr (0, [.ref ao, .ref ai, .ref an, .int 0, .int 0])), (ao, .inl (ko, 15, .inl fo)), (ai, .inl (ki, 15, .inl fi)), (an, .inl (kn, 15, .inl fn_))] sz) := by
  refine Met.ofW (cc := prog_2_method_2_code) (maxL := 1) (ret := none) (by decide) rfl ?_
  intro p e s m args below meth c s₁ B hml hv
  obtain ⟨rfl, hsz, hP, hK, hD0, hN⟩ := hv
  have hx := B.exec
  have hb := B.bytes
  have hr := B.returns
  have hts := ww_hts (atoms_spec (ws := ww ({ cls := "StrongParts$Graph", name := "empty", desc := "()V" } : Jvm.MethodName) prog_2_method_2_code 1 none) B.pre)
  have hown : s.vm.findClass "StrongParts$Graph" = some m.cls := findClass_of_methodNamed B.named
  have hlocks := B.notSynchronized
  subst hsz
  have hD := hD0.self (sz := s.heap.size)
  generalize hAe : va_A [(qg, .inr (0, [.ref ao, .ref ai, .ref an, .int 0, .int 0])), (ao, .inl (ko, 15, .inl fo)), (ai, .inl (ki, 15, .inl fi)), (an, .inl (kn, 15, .inl fn_))] s.heap.size = A at hD ⊢
  have hA : ∀ q : Nat, s.heap.size ≤ q → A q := fun q h => by rw [← hAe]; exact Or.inr h
  have hS : va_S A s.heap s.heap [] := va_S.rf
  have hP : va_P (dC, dI) classes [(qg, .inr (0, [.ref ao, .ref ai, .ref an, .int 0, .int 0])), (ao, .inl (ko, 15, .inl fo)), (ai, .inl (ki, 15, .inl fi)), (an, .inl (kn, 15, .inl fn_))] s.heap := hP
  have hl := lv_entry ([.ref qg]) (n := 1) (Nat.le_of_ble_eq_true rfl)
  rw [lg_entry_eq]
  generalize (lg_sl ([.ref qg]) ++ List.replicate (1 - (lg_sl ([.ref qg])).length) Slot.unset).toArray = ls at hl ⊢
  have hl : lv_has ls 1 [(0, .ref qg)] := hl
  refine lv_aload_n hx hb d_p2_2_0 rfl (lv_at hl 0 rfl) ?_
  refine va_get (D := (dC, dI)) (ci := 0) (v := .ref ao) (C := "StrongParts$Graph") (T := T_0) (N := 5) hx hb hts in_0 hown hK hP 0 rfl rfl 0 (by decide) (hts _ tw_78) (fun _ h9 => h9) rfl d_p2_2_1 ?_
  refine lv_iconst (v := 0) hx hb d_p2_2_4 (by decide) ?_
  have hPc := hP.sub (ws' := [(ao, .inl (ko, 15, .inl fo))]) [1] rfl
  have hDc := hD.sub (ws' := [(ao, .inl (ko, 15, .inl fo))]) [1] (by decide) rfl
  have hKc := hK.sub (tys' := [(ko, .int)]) [0] rfl
  have hFc := va_free (wc := [(ao, .inl (ko, 15, .inl fo))]) hD hS hA [1] rfl
  refine va_callv (va_runS (As := [.ref ao, .int 0]) (rest := []) ⟨hx, hb, hml, hown, hts⟩ (c_fill_I l dC dI ao ko fo s.heap.size) (va_cwS 2 hts (gS gd_170 tw_168 tw_169 tw_61) rfl rfl rfl (by decide +kernel) ⟨Nat.le_of_ble_eq_true rfl, Nat.le_of_ble_eq_true rfl⟩) ⟨cPre_blind, cPre_pre hPc hKc hDc hN⟩ rfl rfl hl.1 rfl (lv_room (Nat.le_of_ble_eq_true rfl)) d_p2_2_5 ⟨Nat.le_of_ble_eq_true rfl, Nat.le_of_ble_eq_true rfl⟩) hS (fun q _ h => hFc q h) hFc (fun u t H1 locs ht hvm hw hB hz1 hk1 hS => ?_)
  obtain ⟨hP1, hK1, hD1⟩ := hB
  rw [ht] at hP1
  obtain ⟨hP, hD⟩ := va_join (wr := [(qg, .inr (0, [.ref ao, .ref ai, .ref an, .int 0, .int 0])), (ai, .inl (ki, 15, .inl fi)), (an, .inl (kn, 15, .inl fn_))]) (w1 := []) hP hD [1] [0, 2, 3] rfl rfl (by decide) (by decide) hk1 hFc hP1 hD1
  generalize H1 = H at hP hS ⊢
  have hP : va_P (dC, dI) classes [(qg, .inr (0, [.ref ao, .ref ai, .ref an, .int 0, .int 0])), (ai, .inl (ki, 15, .inl fi)), (an, .inl (kn, 15, .inl fn_))] H := hP
  have hD : va_D A [(qg, .inr (0, [.ref ao, .ref ai, .ref an, .int 0, .int 0])), (ai, .inl (ki, 15, .inl fi)), (an, .inl (kn, 15, .inl fn_))] := hD
  refine lv_aload_n hx hb d_p2_2_8 rfl (lv_at hl 0 rfl) ?_
  refine va_get (D := (dC, dI)) (ci := 0) (v := .ref ai) (C := "StrongParts$Graph") (T := T_0) (N := 5) hx hb hts in_0 hown hK hP 0 rfl rfl 1 (by decide) (hts _ tw_80) (fun _ h9 => h9) rfl d_p2_2_9 ?_
  refine lv_iconst (v := 0) hx hb d_p2_2_12 (by decide) ?_
  have hPc := hP.sub (ws' := [(ai, .inl (ki, 15, .inl fi))]) [1] rfl
  have hDc := hD.sub (ws' := [(ai, .inl (ki, 15, .inl fi))]) [1] (by decide) rfl
  have hKc := hK.sub (tys' := [(ki, .int)]) [1] rfl
  have hFc := va_free (wc := [(ai, .inl (ki, 15, .inl fi))]) hD hS hA [1] rfl
  refine va_callv (va_runS (As := [.ref ai, .int 0]) (rest := []) ⟨hx, hb, hml, hown, hts⟩ (c_fill_I l dC dI ai ki fi H.size) (va_cwS 2 hts (gS gd_170 tw_168 tw_169 tw_61) rfl rfl rfl (by decide +kernel) ⟨Nat.le_of_ble_eq_true rfl, Nat.le_of_ble_eq_true rfl⟩) ⟨cPre_blind, cPre_pre hPc hKc hDc hN⟩ rfl rfl hl.1 rfl (lv_room (Nat.le_of_ble_eq_true rfl)) d_p2_2_13 ⟨Nat.le_of_ble_eq_true rfl, Nat.le_of_ble_eq_true rfl⟩) hS (fun q _ h => hFc q h) hFc (fun u t H1 locs ht hvm hw hB hz1 hk1 hS => ?_)
  obtain ⟨hP1, hK1, hD1⟩ := hB
  rw [ht] at hP1
  obtain ⟨hP, hD⟩ := va_join (wr := [(qg, .inr (0, [.ref ao, .ref ai, .ref an, .int 0, .int 0])), (an, .inl (kn, 15, .inl fn_))]) (w1 := []) hP hD [1] [0, 2] rfl rfl (by decide) (by decide) hk1 hFc hP1 hD1
  generalize H1 = H at hP hS ⊢
  have hP : va_P (dC, dI) classes [(qg, .inr (0, [.ref ao, .ref ai, .ref an, .int 0, .int 0])), (an, .inl (kn, 15, .inl fn_))] H := hP
  have hD : va_D A [(qg, .inr (0, [.ref ao, .ref ai, .ref an, .int 0, .int 0])), (an, .inl (kn, 15, .inl fn_))] := hD
  refine lv_aload_n hx hb d_p2_2_16 rfl (lv_at hl 0 rfl) ?_
  refine va_get (D := (dC, dI)) (ci := 0) (v := .ref an) (C := "StrongParts$Graph") (T := T_0) (N := 5) hx hb hts in_0 hown hK hP 0 rfl rfl 2 (by decide) (hts _ tw_83) (fun _ h9 => h9) rfl d_p2_2_17 ?_
  refine lv_iconst (v := 0) hx hb d_p2_2_20 (by decide) ?_
  have hPc := hP.sub (ws' := [(an, .inl (kn, 15, .inl fn_))]) [1] rfl
  have hDc := hD.sub (ws' := [(an, .inl (kn, 15, .inl fn_))]) [1] (by decide) rfl
  have hKc := hK.sub (tys' := [(kn, .int)]) [2] rfl
  have hFc := va_free (wc := [(an, .inl (kn, 15, .inl fn_))]) hD hS hA [1] rfl
  refine va_callv (va_runS (As := [.ref an, .int 0]) (rest := []) ⟨hx, hb, hml, hown, hts⟩ (c_fill_I l dC dI an kn fn_ H.size) (va_cwS 2 hts (gS gd_170 tw_168 tw_169 tw_61) rfl rfl rfl (by decide +kernel) ⟨Nat.le_of_ble_eq_true rfl, Nat.le_of_ble_eq_true rfl⟩) ⟨cPre_blind, cPre_pre hPc hKc hDc hN⟩ rfl rfl hl.1 rfl (lv_room (Nat.le_of_ble_eq_true rfl)) d_p2_2_21 ⟨Nat.le_of_ble_eq_true rfl, Nat.le_of_ble_eq_true rfl⟩) hS (fun q _ h => hFc q h) hFc (fun u t H1 locs ht hvm hw hB hz1 hk1 hS => ?_)
  obtain ⟨hP1, hK1, hD1⟩ := hB
  rw [ht] at hP1
  obtain ⟨hP, hD⟩ := va_join (wr := [(qg, .inr (0, [.ref ao, .ref ai, .ref an, .int 0, .int 0]))]) (w1 := []) hP hD [1] [0] rfl rfl (by decide) (by decide) hk1 hFc hP1 hD1
  generalize H1 = H at hP hS ⊢
  have hP : va_P (dC, dI) classes [(qg, .inr (0, [.ref ao, .ref ai, .ref an, .int 0, .int 0]))] H := hP
  have hD : va_D A [(qg, .inr (0, [.ref ao, .ref ai, .ref an, .int 0, .int 0]))] := hD
  refine lv_aload_n hx hb d_p2_2_24 rfl (lv_at hl 0 rfl) ?_
  refine lv_iconst (v := 0) hx hb d_p2_2_25 (by decide) ?_
  refine va_put (D := (dC, dI)) (ci := 0) (v := .int 0) (ty := .int) (C := "StrongParts$Graph") (T := T_0) (N := 5) hx hb hts in_0 t_0 t_0_ok n_0 hown hK hP hD hS 0 rfl rfl 3 (by decide) (hts _ tw_87) (fun _ h9 => h9) rfl (by decide +kernel) rfl rfl (Nat.le_of_ble_eq_true rfl) d_p2_2_26 (fun H locs hP hD hS => ?_)
  have hP : va_P (dC, dI) classes [(qg, .inr (0, [.ref ao, .ref ai, .ref an, .int 0, .int 0]))] H := hP
  have hD : va_D A [(qg, .inr (0, [.ref ao, .ref ai, .ref an, .int 0, .int 0]))] := hD
  refine lv_aload_n hx hb d_p2_2_29 rfl (lv_at hl 0 rfl) ?_
  refine lv_iconst (v := 0) hx hb d_p2_2_30 (by decide) ?_
  refine va_put (D := (dC, dI)) (ci := 0) (v := .int 0) (ty := .int) (C := "StrongParts$Graph") (T := T_0) (N := 5) hx hb hts in_0 t_0 t_0_ok n_0 hown hK hP hD hS 0 rfl rfl 4 (by decide) (hts _ tw_88) (fun _ h9 => h9) rfl (by decide +kernel) rfl rfl (Nat.le_of_ble_eq_true rfl) d_p2_2_31 (fun H locs hP hD hS => ?_)
  have hP : va_P (dC, dI) classes [(qg, .inr (0, [.ref ao, .ref ai, .ref an, .int 0, .int 0]))] H := hP
  have hD : va_D A [(qg, .inr (0, [.ref ao, .ref ai, .ref an, .int 0, .int 0]))] := hD
  have hP9 := hP.sub (ws' := []) [] rfl
  have hD9 := hD.sub (ws' := []) [] (by decide) rfl
  have hK9 := hK.sub (tys' := []) [] rfl
  exact W.vret hx hb hr (fun t ht hW => ⟨⟨(), rfl, trivial, cEnd_mk hP9 hK9 hD9 ht hW⟩, hS.F ht⟩) hS.2.2 d_p2_2_34

set_option maxHeartbeats 4000000 in
set_option maxRecDepth 100000 in
theorem c_G_countNeeded (l : Launch) (dC : Nat → ClassId) (dI : Nat → Nat → Nat) (qg : Nat) (ao : Nat) (ai : Nat) (an : Nat) (sz : Nat) : Met l ({ cls := "StrongParts$Graph", name := "countNeeded", desc := "()I" } : Jvm.MethodName) (ww ({ cls := "StrongParts$Graph", name := "countNeeded", desc := "()I" } : Jvm.MethodName) prog_2_method_15_code 4 (some .int)) ({ frames := 0, cells := 0, slots := 0, locals := 0 }) (va_Pc [.ref qg] (cPre (dC, dI) [(qg, .inr (0, [.ref ao, .ref ai, .ref an, .int 0, .int 0]))] [] sz)) (va_Qi (fun (r : Int32) (_ : Unit) => r = 0) (cEnd (dC, dI) [(qg, .inr (0, [.ref ao, .ref ai, .ref an, .int 0, .int 0]))] [] (va_A [(qg, .inr (0, [.ref ao, .ref ai, .ref an, .int 0, .int 0]))] sz)) (va_A [(qg, .inr (0, [.ref ao, .ref ai, .ref an, .int 0, .int 0]))] sz)) 0 0 (va_A [(qg, .inr (0, [.ref ao, .ref ai, .ref an, .int 0, .int 0]))] sz) := by
  refine Met.ofW (cc := prog_2_method_15_code) (maxL := 4) (ret := (some .int)) (by decide) rfl ?_
  intro p e s m args below meth c s₁ B hml hv
  obtain ⟨rfl, hsz, hP, hK, hD0, hN⟩ := hv
  have hx := B.exec
  have hb := B.bytes
  have hr := B.returns
  have hts := ww_hts (atoms_spec (ws := ww ({ cls := "StrongParts$Graph", name := "countNeeded", desc := "()I" } : Jvm.MethodName) prog_2_method_15_code 4 (some .int)) B.pre)
  have hown : s.vm.findClass "StrongParts$Graph" = some m.cls := findClass_of_methodNamed B.named
  have hlocks := B.notSynchronized
  subst hsz
  have hD := hD0.self (sz := s.heap.size)
  generalize hAe : va_A [(qg, .inr (0, [.ref ao, .ref ai, .ref an, .int 0, .int 0]))] s.heap.size = A at hD ⊢
  have hA : ∀ q : Nat, s.heap.size ≤ q → A q := fun q h => by rw [← hAe]; exact Or.inr h
  have hS : va_S A s.heap s.heap [] := va_S.rf
  have hP : va_P (dC, dI) classes [(qg, .inr (0, [.ref ao, .ref ai, .ref an, .int 0, .int 0]))] s.heap := hP
  have hl := lv_entry ([.ref qg]) (n := 4) (Nat.le_of_ble_eq_true rfl)
  rw [lg_entry_eq]
  generalize (lg_sl ([.ref qg]) ++ List.replicate (4 - (lg_sl ([.ref qg])).length) Slot.unset).toArray = ls at hl ⊢
  have hl : lv_has ls 4 [(0, .ref qg)] := hl
  refine lv_iconst (v := 0) hx hb d_p2_15_0 (by decide) ?_
  refine lv_istore_n (lv' := [(1, .int 0), (0, .ref qg)]) hx hb d_p2_15_1 rfl hl (by decide) rfl (fun ls hl => ?_)
  refine lv_iconst (v := 0) hx hb d_p2_15_2 (by decide) ?_
  refine lv_istore_n (lv' := [(2, .int 0), (1, .int 0), (0, .ref qg)]) hx hb d_p2_15_3 rfl hl (by decide) rfl (fun ls hl => ?_)
  refine lv_iload_n hx hb d_p2_15_4 rfl (lv_at hl 0 rfl) ?_
  refine lv_aload_n hx hb d_p2_15_5 rfl (lv_at hl 2 rfl) ?_
  refine va_get (D := (dC, dI)) (ci := 0) (v := .int 0) (C := "StrongParts$Graph") (T := T_0) (N := 5) hx hb hts in_0 hown hK hP 0 rfl rfl 3 (by decide) (hts _ tw_87) (fun _ h9 => h9) rfl d_p2_15_6 ?_
  refine lv_icmp_ge (tgt := 55) hx hb d_p2_15_9 (by decide) (fun _ => ?_) (fun c => absurd (by decide) c)
  refine lv_iload_n hx hb d_p2_15_55 rfl (lv_at hl 1 rfl) ?_
  have hP9 := hP.sub (ws' := [(qg, .inr (0, [.ref ao, .ref ai, .ref an, .int 0, .int 0]))]) [0] rfl
  have hD9 := hD.sub (ws' := [(qg, .inr (0, [.ref ao, .ref ai, .ref an, .int 0, .int 0]))]) [0] (by decide) rfl
  have hK9 := hK.sub (tys' := []) [] rfl
  exact W.iret (v := 0) hx hb hr (fun t ht hW => ⟨⟨0, (), rfl, rfl, cEnd_mk hP9 hK9 hD9 ht hW⟩, hS.F ht⟩) hS.2.2 d_p2_15_56

set_option maxHeartbeats 4000000 in
set_option maxRecDepth 100000 in
theorem c_G_fewest (l : Launch) (dC : Nat → ClassId) (dI : Nat → Nat → Nat) (qg : Nat) (sz : Nat) : Met l ({ cls := "StrongParts$Graph", name := "fewest", desc := "(LStrongParts$Graph;IIII)I" } : Jvm.MethodName) (ww ({ cls := "StrongParts$Graph", name := "fewest", desc := "(LStrongParts$Graph;IIII)I" } : Jvm.MethodName) prog_2_method_17_code 7 (some .int)) ({ frames := 1, cells := 0, slots := 0, locals := 20 }) (va_Pc [.ref qg, .int (-1), .int 0, .int 0, .int 0] (cPre (dC, dI) [] [] sz)) (va_Qi (fun (r : Int32) (_ : Unit) => r = 0) (cEnd (dC, dI) [] [] (va_A [] sz)) (va_A [] sz)) 0 0 (va_A [] sz) := by
  refine Met.ofW (cc := prog_2_method_17_code) (maxL := 7) (ret := (some .int)) (by decide) rfl ?_
  intro p e s m args below meth c s₁ B hml hv
  obtain ⟨rfl, hsz, hP, hK, hD0, hN⟩ := hv
  have hx := B.exec
  have hb := B.bytes
  have hr := B.returns
  have hts := ww_hts (atoms_spec (ws := ww ({ cls := "StrongParts$Graph", name := "fewest", desc := "(LStrongParts$Graph;IIII)I" } : Jvm.MethodName) prog_2_method_17_code 7 (some .int)) B.pre)
  have hown : s.vm.findClass "StrongParts$Graph" = some m.cls := findClass_of_methodNamed B.named
  have hlocks := B.notSynchronized
  subst hsz
  have hD := hD0.self (sz := s.heap.size)
  generalize hAe : va_A [] s.heap.size = A at hD ⊢
  have hA : ∀ q : Nat, s.heap.size ≤ q → A q := fun q h => by rw [← hAe]; exact Or.inr h
  have hS : va_S A s.heap s.heap [] := va_S.rf
  have hP : va_P (dC, dI) classes [] s.heap := hP
  have hl := lv_entry ([.ref qg, .int (-1), .int 0, .int 0, .int 0]) (n := 7) (Nat.le_of_ble_eq_true rfl)
  rw [lg_entry_eq]
  generalize (lg_sl ([.ref qg, .int (-1), .int 0, .int 0, .int 0]) ++ List.replicate (7 - (lg_sl ([.ref qg, .int (-1), .int 0, .int 0, .int 0])).length) Slot.unset).toArray = ls at hl ⊢
  have hl : lv_has ls 7 [(0, .ref qg), (1, .int (-1)), (2, .int 0), (3, .int 0), (4, .int 0)] := hl
  refine lv_iload_n hx hb d_p2_17_0 rfl (lv_at hl 3 rfl) ?_
  have hPc := hP.sub (ws' := []) [] rfl
  have hDc := hD.sub (ws' := []) [] (by decide) rfl
  have hKc := hK.sub (tys' := []) [] rfl
  have hFc := va_free (wc := []) hD hS hA [] rfl
  refine va_calli (va_runS (As := [.int 0]) (rest := []) ⟨hx, hb, hml, hown, hts⟩ (c_bitCount_0 l dC dI  s.heap.size) (va_cwS 1 hts (gS gd_417 tw_465 tw_416 tw_63) rfl rfl rfl (by decide +kernel) ⟨Nat.le_of_ble_eq_true rfl, Nat.le_of_ble_eq_true rfl⟩) ⟨cPre_blind, cPre_pre hPc hKc hDc hN⟩ rfl rfl hl.1 rfl (lv_room (Nat.le_of_ble_eq_true rfl)) d_p2_17_1 ⟨Nat.le_of_ble_eq_true rfl, Nat.le_of_ble_eq_true rfl⟩) hS (fun q _ h => hFc q h) hFc (fun r_1 u t H1 locs ht hvm hw hB hz1 hk1 hS => ?_)
  obtain ⟨hP1, hK1, hD1⟩ := hB
  rw [ht] at hP1
  obtain ⟨hP, hD⟩ := va_join (wr := []) (w1 := []) hP hD [] [] rfl rfl (by decide) (by decide) hk1 hFc hP1 hD1
  generalize H1 = H at hP hS ⊢
  have hP : va_P (dC, dI) classes [] H := hP
  have hD : va_D A [] := hD
  obtain rfl : r_1 = (0 : Int32) := hw
  refine lv_iload hx hb d_p2_17_4 (lv_at hl 4 rfl) ?_
  have hPc := hP.sub (ws' := []) [] rfl
  have hDc := hD.sub (ws' := []) [] (by decide) rfl
  have hKc := hK.sub (tys' := []) [] rfl
  have hFc := va_free (wc := []) hD hS hA [] rfl
  refine va_calli (va_runS (As := [.int 0]) (rest := [.int 0]) ⟨hx, hb, hml, hown, hts⟩ (c_bitCount_0 l dC dI  H.size) (va_cwS 1 hts (gS gd_417 tw_465 tw_416 tw_63) rfl rfl rfl (by decide +kernel) ⟨Nat.le_of_ble_eq_true rfl, Nat.le_of_ble_eq_true rfl⟩) ⟨cPre_blind, cPre_pre hPc hKc hDc hN⟩ rfl rfl hl.1 rfl (lv_room (Nat.le_of_ble_eq_true rfl)) d_p2_17_6 ⟨Nat.le_of_ble_eq_true rfl, Nat.le_of_ble_eq_true rfl⟩) hS (fun q _ h => hFc q h) hFc (fun r_2 u t H1 locs ht hvm hw hB hz1 hk1 hS => ?_)
  obtain ⟨hP1, hK1, hD1⟩ := hB
  rw [ht] at hP1
  obtain ⟨hP, hD⟩ := va_join (wr := []) (w1 := []) hP hD [] [] rfl rfl (by decide) (by decide) hk1 hFc hP1 hD1
  generalize H1 = H at hP hS ⊢
  have hP : va_P (dC, dI) classes [] H := hP
  have hD : va_D A [] := hD
  obtain rfl : r_2 = (0 : Int32) := hw
  refine lv_icmp_lt (tgt := 15) hx hb d_p2_17_9 (by decide) (fun c => absurd c (by decide)) (fun _ => ?_)
  refine lv_iload hx hb d_p2_17_12 (lv_at hl 4 rfl) ?_
  have hP9 := hP.sub (ws' := []) [] rfl
  have hD9 := hD.sub (ws' := []) [] (by decide) rfl
  have hK9 := hK.sub (tys' := []) [] rfl
  exact W.iret (v := 0) hx hb hr (fun t ht hW => ⟨⟨0, (), rfl, rfl, cEnd_mk hP9 hK9 hD9 ht hW⟩, hS.F ht⟩) hS.2.2 d_p2_17_14

set_option maxHeartbeats 4000000 in
set_option maxRecDepth 100000 in
theorem c_GR_takeKnots (l : Launch) (dC : Nat → ClassId) (dI : Nat → Nat → Nat) (qr : Nat) (qg : Nat) (as_ : Nat) (ao : Nat) (ai : Nat) (an : Nat) (sz : Nat) : Met l ({ cls := "StrongParts$Groups", name := "takeKnots", desc := "(LStrongParts$Graph;)V" } : Jvm.MethodName) (ww ({ cls := "StrongParts$Groups", name := "takeKnots", desc := "(LStrongParts$Graph;)V" } : Jvm.MethodName) prog_3_method_2_code 3 none) ({ frames := 0, cells := 0, slots := 0, locals := 0 }) (va_Pc [.ref qr, .ref qg] (cPre (dC, dI) [(qr, .inr (1, [.ref as_, .int 0])), (qg, .inr (0, [.ref ao, .ref ai, .ref an, .int 0, .int 0]))] [] sz)) (va_Qv (fun _ : Unit => True) (cEnd (dC, dI) [(qr, .inr (1, [.ref as_, .int 0])), (qg, .inr (0, [.ref ao, .ref ai, .ref an, .int 0, .int 0]))] [] (va_A [(qr, .inr (1, [.ref as_, .int 0])), (qg, .inr (0, [.ref ao, .ref ai, .ref an, .int 0, .int 0]))] sz)) (va_A [(qr, .inr (1, [.ref as_, .int 0])), (qg, .inr (0, [.ref ao, .ref ai, .ref an, .int 0, .int 0]))] sz)) 0 0 (va_A [(qr, .inr (1, [.ref as_, .int 0])), (qg, .inr (0, [.ref ao, .ref ai, .ref an, .int 0, .int 0]))] sz) := by
  refine Met.ofW (cc := prog_3_method_2_code) (maxL := 3) (ret := none) (by decide) rfl ?_
  intro p e s m args below meth c s₁ B hml hv
  obtain ⟨rfl, hsz, hP, hK, hD0, hN⟩ := hv
  have hx := B.exec
  have hb := B.bytes
  have hr := B.returns
  have hts := ww_hts (atoms_spec (ws := ww ({ cls := "StrongParts$Groups", name := "takeKnots", desc := "(LStrongParts$Graph;)V" } : Jvm.MethodName) prog_3_method_2_code 3 none) B.pre)
  have hown : s.vm.findClass "StrongParts$Groups" = some m.cls := findClass_of_methodNamed B.named
  have hlocks := B.notSynchronized
  subst hsz
  have hD := hD0.self (sz := s.heap.size)
  generalize hAe : va_A [(qr, .inr (1, [.ref as_, .int 0])), (qg, .inr (0, [.ref ao, .ref ai, .ref an, .int 0, .int 0]))] s.heap.size = A at hD ⊢
  have hA : ∀ q : Nat, s.heap.size ≤ q → A q := fun q h => by rw [← hAe]; exact Or.inr h
  have hS : va_S A s.heap s.heap [] := va_S.rf
  have hP : va_P (dC, dI) classes [(qr, .inr (1, [.ref as_, .int 0])), (qg, .inr (0, [.ref ao, .ref ai, .ref an, .int 0, .int 0]))] s.heap := hP
  have hl := lv_entry ([.ref qr, .ref qg]) (n := 3) (Nat.le_of_ble_eq_true rfl)
  rw [lg_entry_eq]
  generalize (lg_sl ([.ref qr, .ref qg]) ++ List.replicate (3 - (lg_sl ([.ref qr, .ref qg])).length) Slot.unset).toArray = ls at hl ⊢
  have hl : lv_has ls 3 [(0, .ref qr), (1, .ref qg)] := hl
  refine lv_aload_n hx hb d_p3_2_0 rfl (lv_at hl 0 rfl) ?_
  refine lv_iconst (v := 0) hx hb d_p3_2_1 (by decide) ?_
  refine va_put (D := (dC, dI)) (ci := 1) (v := .int 0) (ty := .int) (C := "StrongParts$Groups") (T := T_1) (N := 2) hx hb hts in_1 t_1 t_1_ok n_1 hown hK hP hD hS 0 rfl rfl 1 (by decide) (hts _ tw_111) (fun _ h9 => h9) rfl (by decide +kernel) rfl rfl (Nat.le_of_ble_eq_true rfl) d_p3_2_2 (fun H locs hP hD hS => ?_)
  have hP : va_P (dC, dI) classes [(qr, .inr (1, [.ref as_, .int 0])), (qg, .inr (0, [.ref ao, .ref ai, .ref an, .int 0, .int 0]))] H := hP
  have hD : va_D A [(qr, .inr (1, [.ref as_, .int 0])), (qg, .inr (0, [.ref ao, .ref ai, .ref an, .int 0, .int 0]))] := hD
  refine lv_iconst (v := 0) hx hb d_p3_2_5 (by decide) ?_
  refine lv_istore_n (lv' := [(2, .int 0), (0, .ref qr), (1, .ref qg)]) hx hb d_p3_2_6 rfl hl (by decide) rfl (fun ls hl => ?_)
  refine lv_iload_n hx hb d_p3_2_7 rfl (lv_at hl 0 rfl) ?_
  refine lv_aload_n hx hb d_p3_2_8 rfl (lv_at hl 2 rfl) ?_
  refine va_getN (D := (dC, dI)) (ci := 0) (v := .int 0) (C := "StrongParts$Graph") (T := T_0) (N := 5) hx hb hts in_0 hown hK hP 1 rfl rfl 3 (by decide) (va_Nw.use rfl (hN _ nw_86)) (fun _ h9 => h9) rfl d_p3_2_9 ?_
  refine lv_icmp_ge (tgt := 37) hx hb d_p3_2_12 (by decide) (fun _ => ?_) (fun c => absurd (by decide) c)
  have hP9 := hP.sub (ws' := [(qr, .inr (1, [.ref as_, .int 0])), (qg, .inr (0, [.ref ao, .ref ai, .ref an, .int 0, .int 0]))]) [0, 1] rfl
  have hD9 := hD.sub (ws' := [(qr, .inr (1, [.ref as_, .int 0])), (qg, .inr (0, [.ref ao, .ref ai, .ref an, .int 0, .int 0]))]) [0, 1] (by decide) rfl
  have hK9 := hK.sub (tys' := []) [] rfl
  exact W.vret hx hb hr (fun t ht hW => ⟨⟨(), rfl, trivial, cEnd_mk hP9 hK9 hD9 ht hW⟩, hS.F ht⟩) hS.2.2 d_p3_2_37

set_option maxHeartbeats 4000000 in
set_option maxRecDepth 100000 in
theorem c_GR_takeParts (l : Launch) (dC : Nat → ClassId) (dI : Nat → Nat → Nat) (qr : Nat) (qg : Nat) (as_ : Nat) (ao : Nat) (ai : Nat) (an : Nat) (sz : Nat) : Met l ({ cls := "StrongParts$Groups", name := "takeParts", desc := "(LStrongParts$Graph;)V" } : Jvm.MethodName) (ww ({ cls := "StrongParts$Groups", name := "takeParts", desc := "(LStrongParts$Graph;)V" } : Jvm.MethodName) prog_3_method_3_code 3 none) ({ frames := 0, cells := 0, slots := 0, locals := 0 }) (va_Pc [.ref qr, .ref qg] (cPre (dC, dI) [(qr, .inr (1, [.ref as_, .int 0])), (qg, .inr (0, [.ref ao, .ref ai, .ref an, .int 0, .int 0]))] [] sz)) (va_Qv (fun _ : Unit => True) (cEnd (dC, dI) [(qr, .inr (1, [.ref as_, .int 0])), (qg, .inr (0, [.ref ao, .ref ai, .ref an, .int 0, .int 0]))] [] (va_A [(qr, .inr (1, [.ref as_, .int 0])), (qg, .inr (0, [.ref ao, .ref ai, .ref an, .int 0, .int 0]))] sz)) (va_A [(qr, .inr (1, [.ref as_, .int 0])), (qg, .inr (0, [.ref ao, .ref ai, .ref an, .int 0, .int 0]))] sz)) 0 0 (va_A [(qr, .inr (1, [.ref as_, .int 0])), (qg, .inr (0, [.ref ao, .ref ai, .ref an, .int 0, .int 0]))] sz) := by
  refine Met.ofW (cc := prog_3_method_3_code) (maxL := 3) (ret := none) (by decide) rfl ?_
  intro p e s m args below meth c s₁ B hml hv
  obtain ⟨rfl, hsz, hP, hK, hD0, hN⟩ := hv
  have hx := B.exec
  have hb := B.bytes
  have hr := B.returns
  have hts := ww_hts (atoms_spec (ws := ww ({ cls := "StrongParts$Groups", name := "takeParts", desc := "(LStrongParts$Graph;)V" } : Jvm.MethodName) prog_3_method_3_code 3 none) B.pre)
  have hown : s.vm.findClass "StrongParts$Groups" = some m.cls := findClass_of_methodNamed B.named
  have hlocks := B.notSynchronized
  subst hsz
  have hD := hD0.self (sz := s.heap.size)
  generalize hAe : va_A [(qr, .inr (1, [.ref as_, .int 0])), (qg, .inr (0, [.ref ao, .ref ai, .ref an, .int 0, .int 0]))] s.heap.size = A at hD ⊢
  have hA : ∀ q : Nat, s.heap.size ≤ q → A q := fun q h => by rw [← hAe]; exact Or.inr h
  have hS : va_S A s.heap s.heap [] := va_S.rf
  have hP : va_P (dC, dI) classes [(qr, .inr (1, [.ref as_, .int 0])), (qg, .inr (0, [.ref ao, .ref ai, .ref an, .int 0, .int 0]))] s.heap := hP
  have hl := lv_entry ([.ref qr, .ref qg]) (n := 3) (Nat.le_of_ble_eq_true rfl)
  rw [lg_entry_eq]
  generalize (lg_sl ([.ref qr, .ref qg]) ++ List.replicate (3 - (lg_sl ([.ref qr, .ref qg])).length) Slot.unset).toArray = ls at hl ⊢
  have hl : lv_has ls 3 [(0, .ref qr), (1, .ref qg)] := hl
  refine lv_aload_n hx hb d_p3_3_0 rfl (lv_at hl 0 rfl) ?_
  refine lv_iconst (v := 0) hx hb d_p3_3_1 (by decide) ?_
  refine va_put (D := (dC, dI)) (ci := 1) (v := .int 0) (ty := .int) (C := "StrongParts$Groups") (T := T_1) (N := 2) hx hb hts in_1 t_1 t_1_ok n_1 hown hK hP hD hS 0 rfl rfl 1 (by decide) (hts _ tw_111) (fun _ h9 => h9) rfl (by decide +kernel) rfl rfl (Nat.le_of_ble_eq_true rfl) d_p3_3_2 (fun H locs hP hD hS => ?_)
  have hP : va_P (dC, dI) classes [(qr, .inr (1, [.ref as_, .int 0])), (qg, .inr (0, [.ref ao, .ref ai, .ref an, .int 0, .int 0]))] H := hP
  have hD : va_D A [(qr, .inr (1, [.ref as_, .int 0])), (qg, .inr (0, [.ref ao, .ref ai, .ref an, .int 0, .int 0]))] := hD
  refine lv_iconst (v := 0) hx hb d_p3_3_5 (by decide) ?_
  refine lv_istore_n (lv' := [(2, .int 0), (0, .ref qr), (1, .ref qg)]) hx hb d_p3_3_6 rfl hl (by decide) rfl (fun ls hl => ?_)
  refine lv_iload_n hx hb d_p3_3_7 rfl (lv_at hl 0 rfl) ?_
  refine lv_aload_n hx hb d_p3_3_8 rfl (lv_at hl 2 rfl) ?_
  refine va_getN (D := (dC, dI)) (ci := 0) (v := .int 0) (C := "StrongParts$Graph") (T := T_0) (N := 5) hx hb hts in_0 hown hK hP 1 rfl rfl 3 (by decide) (va_Nw.use rfl (hN _ nw_86)) (fun _ h9 => h9) rfl d_p3_3_9 ?_
  refine lv_icmp_ge (tgt := 31) hx hb d_p3_3_12 (by decide) (fun _ => ?_) (fun c => absurd (by decide) c)
  have hP9 := hP.sub (ws' := [(qr, .inr (1, [.ref as_, .int 0])), (qg, .inr (0, [.ref ao, .ref ai, .ref an, .int 0, .int 0]))]) [0, 1] rfl
  have hD9 := hD.sub (ws' := [(qr, .inr (1, [.ref as_, .int 0])), (qg, .inr (0, [.ref ao, .ref ai, .ref an, .int 0, .int 0]))]) [0, 1] (by decide) rfl
  have hK9 := hK.sub (tys' := []) [] rfl
  exact W.vret hx hb hr (fun t ht hW => ⟨⟨(), rfl, trivial, cEnd_mk hP9 hK9 hD9 ht hW⟩, hS.F ht⟩) hS.2.2 d_p3_3_31

set_option maxHeartbeats 4000000 in
set_option maxRecDepth 100000 in
theorem c_K_take (l : Launch) (dC : Nat → ClassId) (dI : Nat → Nat → Nat) (qk : Nat) (qg : Nat) (qr : Nat) (ab : Nat) (ac : Nat) (as_ : Nat) (sz : Nat) : Met l ({ cls := "StrongParts$KnotOrder", name := "take", desc := "(LStrongParts$Graph;LStrongParts$Groups;)V" } : Jvm.MethodName) (ww ({ cls := "StrongParts$KnotOrder", name := "take", desc := "(LStrongParts$Graph;LStrongParts$Groups;)V" } : Jvm.MethodName) prog_4_method_2_code 4 none) ({ frames := 1, cells := 0, slots := 0, locals := 24 }) (va_Pc [.ref qk, .ref qg, .ref qr] (cPre (dC, dI) [(qk, .inr (2, [.ref ab, .int 0, .ref ac])), (qr, .inr (1, [.ref as_, .int 0]))] [] sz)) (va_Qv (fun _ : Unit => True) (cEnd (dC, dI) [(qk, .inr (2, [.ref ab, .int 0, .ref ac])), (qr, .inr (1, [.ref as_, .int 0]))] [] (va_A [(qk, .inr (2, [.ref ab, .int 0, .ref ac])), (qr, .inr (1, [.ref as_, .int 0]))] sz)) (va_A [(qk, .inr (2, [.ref ab, .int 0, .ref ac])), (qr, .inr (1, [.ref as_, .int 0]))] sz)) 0 0 (va_A [(qk, .inr (2, [.ref ab, .int 0, .ref ac])), (qr, .inr (1, [.ref as_, .int 0]))] sz) := by
  refine Met.ofW (cc := prog_4_method_2_code) (maxL := 4) (ret := none) (by decide) rfl ?_
  intro p e s m args below meth c s₁ B hml hv
  obtain ⟨rfl, hsz, hP, hK, hD0, hN⟩ := hv
  have hx := B.exec
  have hb := B.bytes
  have hr := B.returns
  have hts := ww_hts (atoms_spec (ws := ww ({ cls := "StrongParts$KnotOrder", name := "take", desc := "(LStrongParts$Graph;LStrongParts$Groups;)V" } : Jvm.MethodName) prog_4_method_2_code 4 none) B.pre)
  have hown : s.vm.findClass "StrongParts$KnotOrder" = some m.cls := findClass_of_methodNamed B.named
  have hlocks := B.notSynchronized
  subst hsz
  have hD := hD0.self (sz := s.heap.size)
  generalize hAe : va_A [(qk, .inr (2, [.ref ab, .int 0, .ref ac])), (qr, .inr (1, [.ref as_, .int 0]))] s.heap.size = A at hD ⊢
  have hA : ∀ q : Nat, s.heap.size ≤ q → A q := fun q h => by rw [← hAe]; exact Or.inr h
  have hS : va_S A s.heap s.heap [] := va_S.rf
  have hP : va_P (dC, dI) classes [(qk, .inr (2, [.ref ab, .int 0, .ref ac])), (qr, .inr (1, [.ref as_, .int 0]))] s.heap := hP
  have hl := lv_entry ([.ref qk, .ref qg, .ref qr]) (n := 4) (Nat.le_of_ble_eq_true rfl)
  rw [lg_entry_eq]
  generalize (lg_sl ([.ref qk, .ref qg, .ref qr]) ++ List.replicate (4 - (lg_sl ([.ref qk, .ref qg, .ref qr])).length) Slot.unset).toArray = ls at hl ⊢
  have hl : lv_has ls 4 [(0, .ref qk), (1, .ref qg), (2, .ref qr)] := hl
  refine lv_aload_n hx hb d_p4_2_0 rfl (lv_at hl 0 rfl) ?_
  refine lv_aload_n hx hb d_p4_2_1 rfl (lv_at hl 2 rfl) ?_
  refine va_getN (D := (dC, dI)) (ci := 1) (v := .int 0) (C := "StrongParts$Groups") (T := T_1) (N := 2) hx hb hts in_1 hown hK hP 1 rfl rfl 1 (by decide) (va_Nw.use rfl (hN _ nw_112)) (fun _ h9 => h9) rfl d_p4_2_2 ?_
  refine lv_bipush (v := 15) hx hb d_p4_2_5 (by decide) ?_
  refine va_mmin hx hb (by rw [hml]; exact hl.1.symm) hown (hts _ tw_282) (hts _ tw_283) (hts _ tw_62) (hts _ tw_min) (Nat.le_of_ble_eq_true rfl) (Nat.le_of_ble_eq_true rfl) (Nat.le_of_ble_eq_true rfl) (Nat.le_of_ble_eq_true rfl) d_p4_2_7 ?_
  refine lv_topi (fun z_1 ez_1 => ?_)
  obtain rfl : z_1 = (0 : Int32) := ez_1.trans (by decide)
  refine va_put (D := (dC, dI)) (ci := 2) (v := .int 0) (ty := .int) (C := "StrongParts$KnotOrder") (T := T_2) (N := 3) hx hb hts in_2 t_2 t_2_ok n_2 hown hK hP hD hS 0 rfl rfl 1 (by decide) (hts _ tw_126) (fun _ h9 => h9) rfl (by decide +kernel) rfl rfl (Nat.le_of_ble_eq_true rfl) d_p4_2_10 (fun H locs hP hD hS => ?_)
  have hP : va_P (dC, dI) classes [(qk, .inr (2, [.ref ab, .int 0, .ref ac])), (qr, .inr (1, [.ref as_, .int 0]))] H := hP
  have hD : va_D A [(qk, .inr (2, [.ref ab, .int 0, .ref ac])), (qr, .inr (1, [.ref as_, .int 0]))] := hD
  refine lv_iconst (v := 0) hx hb d_p4_2_13 (by decide) ?_
  refine lv_istore_n (lv' := [(3, .int 0), (0, .ref qk), (1, .ref qg), (2, .ref qr)]) hx hb d_p4_2_14 rfl hl (by decide) rfl (fun ls hl => ?_)
  refine lv_iload_n hx hb d_p4_2_15 rfl (lv_at hl 0 rfl) ?_
  refine lv_aload_n hx hb d_p4_2_16 rfl (lv_at hl 1 rfl) ?_
  refine va_get (D := (dC, dI)) (ci := 2) (v := .int 0) (C := "StrongParts$KnotOrder") (T := T_2) (N := 3) hx hb hts in_2 hown hK hP 0 rfl rfl 1 (by decide) (hts _ tw_126) (fun _ h9 => h9) rfl d_p4_2_17 ?_
  refine lv_icmp_ge (tgt := 44) hx hb d_p4_2_20 (by decide) (fun _ => ?_) (fun c => absurd (by decide) c)
  have hP9 := hP.sub (ws' := [(qk, .inr (2, [.ref ab, .int 0, .ref ac])), (qr, .inr (1, [.ref as_, .int 0]))]) [0, 1] rfl
  have hD9 := hD.sub (ws' := [(qk, .inr (2, [.ref ab, .int 0, .ref ac])), (qr, .inr (1, [.ref as_, .int 0]))]) [0, 1] (by decide) rfl
  have hK9 := hK.sub (tys' := []) [] rfl
  exact W.vret hx hb hr (fun t ht hW => ⟨⟨(), rfl, trivial, cEnd_mk hP9 hK9 hD9 ht hW⟩, hS.F ht⟩) hS.2.2 d_p4_2_44

set_option maxHeartbeats 4000000 in
set_option maxRecDepth 100000 in
theorem c_K_all (l : Launch) (dC : Nat → ClassId) (dI : Nat → Nat → Nat) (qk : Nat) (ab : Nat) (ac : Nat) (sz : Nat) : Met l ({ cls := "StrongParts$KnotOrder", name := "all", desc := "()I" } : Jvm.MethodName) (ww ({ cls := "StrongParts$KnotOrder", name := "all", desc := "()I" } : Jvm.MethodName) prog_4_method_4_code 1 (some .int)) ({ frames := 0, cells := 0, slots := 0, locals := 0 }) (va_Pc [.ref qk] (cPre (dC, dI) [(qk, .inr (2, [.ref ab, .int 0, .ref ac]))] [] sz)) (va_Qi (fun (r : Int32) (_ : Unit) => r = 0) (cEnd (dC, dI) [(qk, .inr (2, [.ref ab, .int 0, .ref ac]))] [] (va_A [(qk, .inr (2, [.ref ab, .int 0, .ref ac]))] sz)) (va_A [(qk, .inr (2, [.ref ab, .int 0, .ref ac]))] sz)) 0 0 (va_A [(qk, .inr (2, [.ref ab, .int 0, .ref ac]))] sz) := by
  refine Met.ofW (cc := prog_4_method_4_code) (maxL := 1) (ret := (some .int)) (by decide) rfl ?_
  intro p e s m args below meth c s₁ B hml hv
  obtain ⟨rfl, hsz, hP, hK, hD0, hN⟩ := hv
  have hx := B.exec
  have hb := B.bytes
  have hr := B.returns
  have hts := ww_hts (atoms_spec (ws := ww ({ cls := "StrongParts$KnotOrder", name := "all", desc := "()I" } : Jvm.MethodName) prog_4_method_4_code 1 (some .int)) B.pre)
  have hown : s.vm.findClass "StrongParts$KnotOrder" = some m.cls := findClass_of_methodNamed B.named
  have hlocks := B.notSynchronized
  subst hsz
  have hD := hD0.self (sz := s.heap.size)
  generalize hAe : va_A [(qk, .inr (2, [.ref ab, .int 0, .ref ac]))] s.heap.size = A at hD ⊢
  have hA : ∀ q : Nat, s.heap.size ≤ q → A q := fun q h => by rw [← hAe]; exact Or.inr h
  have hS : va_S A s.heap s.heap [] := va_S.rf
  have hP : va_P (dC, dI) classes [(qk, .inr (2, [.ref ab, .int 0, .ref ac]))] s.heap := hP
  have hl := lv_entry ([.ref qk]) (n := 1) (Nat.le_of_ble_eq_true rfl)
  rw [lg_entry_eq]
  generalize (lg_sl ([.ref qk]) ++ List.replicate (1 - (lg_sl ([.ref qk])).length) Slot.unset).toArray = ls at hl ⊢
  have hl : lv_has ls 1 [(0, .ref qk)] := hl
  refine lv_iconst (v := 1) hx hb d_p4_4_0 (by decide) ?_
  refine lv_aload_n hx hb d_p4_4_1 rfl (lv_at hl 0 rfl) ?_
  refine va_get (D := (dC, dI)) (ci := 2) (v := .int 0) (C := "StrongParts$KnotOrder") (T := T_2) (N := 3) hx hb hts in_2 hown hK hP 0 rfl rfl 1 (by decide) (hts _ tw_126) (fun _ h9 => h9) rfl d_p4_4_2 ?_
  refine lv_ishl hx hb d_p4_4_5 ?_
  refine lv_topi (fun z_1 ez_1 => ?_)
  obtain rfl : z_1 = (1 : Int32) := ez_1.trans (by decide)
  refine lv_iconst (v := 1) hx hb d_p4_4_6 (by decide) ?_
  refine lv_isub hx hb d_p4_4_7 ?_
  refine lv_topi (fun z_2 ez_2 => ?_)
  obtain rfl : z_2 = (0 : Int32) := ez_2.trans (by decide)
  have hP9 := hP.sub (ws' := [(qk, .inr (2, [.ref ab, .int 0, .ref ac]))]) [0] rfl
  have hD9 := hD.sub (ws' := [(qk, .inr (2, [.ref ab, .int 0, .ref ac]))]) [0] (by decide) rfl
  have hK9 := hK.sub (tys' := []) [] rfl
  exact W.iret (v := 0) hx hb hr (fun t ht hW => ⟨⟨0, (), rfl, rfl, cEnd_mk hP9 hK9 hD9 ht hW⟩, hS.F ht⟩) hS.2.2 d_p4_4_8

set_option maxHeartbeats 4000000 in
set_option maxRecDepth 100000 in
theorem c_K_longestChain (l : Launch) (dC : Nat → ClassId) (dI : Nat → Nat → Nat) (qk : Nat) (ab : Nat) (ac : Nat) (sz : Nat) : Met l ({ cls := "StrongParts$KnotOrder", name := "longestChain", desc := "()I" } : Jvm.MethodName) (ww ({ cls := "StrongParts$KnotOrder", name := "longestChain", desc := "()I" } : Jvm.MethodName) prog_4_method_7_code 3 (some .int)) ({ frames := 1, cells := 0, slots := 0, locals := 20 }) (va_Pc [.ref qk] (cPre (dC, dI) [(qk, .inr (2, [.ref ab, .int 0, .ref ac]))] [] sz)) (va_Qi (fun (r : Int32) (_ : Unit) => r = 0) (cEnd (dC, dI) [(qk, .inr (2, [.ref ab, .int 0, .ref ac]))] [] (va_A [(qk, .inr (2, [.ref ab, .int 0, .ref ac]))] sz)) (va_A [(qk, .inr (2, [.ref ab, .int 0, .ref ac]))] sz)) 0 0 (va_A [(qk, .inr (2, [.ref ab, .int 0, .ref ac]))] sz) := by
  refine Met.ofW (cc := prog_4_method_7_code) (maxL := 3) (ret := (some .int)) (by decide) rfl ?_
  intro p e s m args below meth c s₁ B hml hv
  obtain ⟨rfl, hsz, hP, hK, hD0, hN⟩ := hv
  have hx := B.exec
  have hb := B.bytes
  have hr := B.returns
  have hts := ww_hts (atoms_spec (ws := ww ({ cls := "StrongParts$KnotOrder", name := "longestChain", desc := "()I" } : Jvm.MethodName) prog_4_method_7_code 3 (some .int)) B.pre)
  have hown : s.vm.findClass "StrongParts$KnotOrder" = some m.cls := findClass_of_methodNamed B.named
  have hlocks := B.notSynchronized
  subst hsz
  have hD := hD0.self (sz := s.heap.size)
  generalize hAe : va_A [(qk, .inr (2, [.ref ab, .int 0, .ref ac]))] s.heap.size = A at hD ⊢
  have hA : ∀ q : Nat, s.heap.size ≤ q → A q := fun q h => by rw [← hAe]; exact Or.inr h
  have hS : va_S A s.heap s.heap [] := va_S.rf
  have hP : va_P (dC, dI) classes [(qk, .inr (2, [.ref ab, .int 0, .ref ac]))] s.heap := hP
  have hl := lv_entry ([.ref qk]) (n := 3) (Nat.le_of_ble_eq_true rfl)
  rw [lg_entry_eq]
  generalize (lg_sl ([.ref qk]) ++ List.replicate (3 - (lg_sl ([.ref qk])).length) Slot.unset).toArray = ls at hl ⊢
  have hl : lv_has ls 3 [(0, .ref qk)] := hl
  refine lv_iconst (v := 0) hx hb d_p4_7_0 (by decide) ?_
  refine lv_istore_n (lv' := [(1, .int 0), (0, .ref qk)]) hx hb d_p4_7_1 rfl hl (by decide) rfl (fun ls hl => ?_)
  refine lv_iconst (v := 0) hx hb d_p4_7_2 (by decide) ?_
  refine lv_istore_n (lv' := [(2, .int 0), (1, .int 0), (0, .ref qk)]) hx hb d_p4_7_3 rfl hl (by decide) rfl (fun ls hl => ?_)
  refine lv_iload_n hx hb d_p4_7_4 rfl (lv_at hl 1 rfl) ?_
  refine lv_aload_n hx hb d_p4_7_5 rfl (lv_at hl 2 rfl) ?_
  have hPc := hP.sub (ws' := [(qk, .inr (2, [.ref ab, .int 0, .ref ac]))]) [0] rfl
  have hDc := hD.sub (ws' := [(qk, .inr (2, [.ref ab, .int 0, .ref ac]))]) [0] (by decide) rfl
  have hKc := hK.sub (tys' := []) [] rfl
  have hFc := va_free (wc := [(qk, .inr (2, [.ref ab, .int 0, .ref ac]))]) hD hS hA [0] rfl
  refine va_calli (va_runV (As := []) (rest := [.int 0]) ⟨hx, hb, hml, hown, hts⟩ (c_K_all l dC dI qk ab ac s.heap.size) (cwV 0 hts (gV gd_314 tw_311 tw_313 tw_19 tw_58) rfl rfl rfl (by decide +kernel) ⟨Nat.le_of_ble_eq_true rfl, Nat.le_of_ble_eq_true rfl⟩) ⟨cPre_blind, va_recv hKc hPc (ci := 2) (q0 := 0) rfl rfl, cPre_pre hPc hKc hDc hN⟩ rfl rfl hl.1 rfl (lv_room (Nat.le_of_ble_eq_true rfl)) d_p4_7_6 ⟨Nat.le_of_ble_eq_true rfl, Nat.le_of_ble_eq_true rfl⟩) hS (fun q _ h => hFc q h) hFc (fun r_1 u t H1 locs ht hvm hw hB hz1 hk1 hS => ?_)
  obtain ⟨hP1, hK1, hD1⟩ := hB
  rw [ht] at hP1
  obtain ⟨hP, hD⟩ := va_join (wr := []) (w1 := [(qk, .inr (2, [.ref ab, .int 0, .ref ac]))]) hP hD [0] [] rfl rfl (by decide) (by decide) hk1 hFc hP1 hD1
  generalize H1 = H at hP hS ⊢
  have hP : va_P (dC, dI) classes [(qk, .inr (2, [.ref ab, .int 0, .ref ac]))] H := hP
  have hD : va_D A [(qk, .inr (2, [.ref ab, .int 0, .ref ac]))] := hD
  obtain rfl : r_1 = (0 : Int32) := hw
  refine lv_icmp_eq (tgt := 34) hx hb d_p4_7_9 (by decide) (fun _ => ?_) (fun c => absurd (by decide) c)
  refine lv_iload_n hx hb d_p4_7_34 rfl (lv_at hl 0 rfl) ?_
  have hP9 := hP.sub (ws' := [(qk, .inr (2, [.ref ab, .int 0, .ref ac]))]) [0] rfl
  have hD9 := hD.sub (ws' := [(qk, .inr (2, [.ref ab, .int 0, .ref ac]))]) [0] (by decide) rfl
  have hK9 := hK.sub (tys' := []) [] rfl
  exact W.iret (v := 0) hx hb hr (fun t ht hW => ⟨⟨0, (), rfl, rfl, cEnd_mk hP9 hK9 hD9 ht hW⟩, hS.F ht⟩) hS.2.2 d_p4_7_35

set_option maxHeartbeats 4000000 in
set_option maxRecDepth 100000 in
theorem c_K_countAll (l : Launch) (dC : Nat → ClassId) (dI : Nat → Nat → Nat) (qk : Nat) (ab : Nat) (ac : Nat) (kc : ClassId) (fc : Nat → Int64) (sz : Nat) : Met l ({ cls := "StrongParts$KnotOrder", name := "countAll", desc := "()J" } : Jvm.MethodName) (ww ({ cls := "StrongParts$KnotOrder", name := "countAll", desc := "()J" } : Jvm.MethodName) prog_4_method_8_code 3 (some .long)) ({ frames := 1, cells := 0, slots := 0, locals := 24 }) (va_Pc [.ref qk] (cPre (dC, dI) [(qk, .inr (2, [.ref ab, .int 0, .ref ac])), (ac, .inl (kc, 1, .inr (.inl fc)))] [(kc, .long)] sz)) (va_Ql (fun (r : Int64) (_ : Unit) => r = 1) (cEnd (dC, dI) [] [] (va_A [(qk, .inr (2, [.ref ab, .int 0, .ref ac])), (ac, .inl (kc, 1, .inr (.inl fc)))] sz)) (va_A [(qk, .inr (2, [.ref ab, .int 0, .ref ac])), (ac, .inl (kc, 1, .inr (.inl fc)))] sz)) 0 0 (va_A [(qk, .inr (2, [.ref ab, .int 0, .ref ac])), (ac, .inl (kc, 1, .inr (.inl fc)))] sz) := by
  refine Met.ofW (cc := prog_4_method_8_code) (maxL := 3) (ret := (some .long)) (by decide) rfl ?_
  intro p e s m args below meth c s₁ B hml hv
  obtain ⟨rfl, hsz, hP, hK, hD0, hN⟩ := hv
  have hx := B.exec
  have hb := B.bytes
  have hr := B.returns
  have hts := ww_hts (atoms_spec (ws := ww ({ cls := "StrongParts$KnotOrder", name := "countAll", desc := "()J" } : Jvm.MethodName) prog_4_method_8_code 3 (some .long)) B.pre)
  have hown : s.vm.findClass "StrongParts$KnotOrder" = some m.cls := findClass_of_methodNamed B.named
  have hlocks := B.notSynchronized
  subst hsz
  have hD := hD0.self (sz := s.heap.size)
  generalize hAe : va_A [(qk, .inr (2, [.ref ab, .int 0, .ref ac])), (ac, .inl (kc, 1, .inr (.inl fc)))] s.heap.size = A at hD ⊢
  have hA : ∀ q : Nat, s.heap.size ≤ q → A q := fun q h => by rw [← hAe]; exact Or.inr h
  have hS : va_S A s.heap s.heap [] := va_S.rf
  have hP : va_P (dC, dI) classes [(qk, .inr (2, [.ref ab, .int 0, .ref ac])), (ac, .inl (kc, 1, .inr (.inl fc)))] s.heap := hP
  have hl := lv_entry ([.ref qk]) (n := 3) (Nat.le_of_ble_eq_true rfl)
  rw [lg_entry_eq]
  generalize (lg_sl ([.ref qk]) ++ List.replicate (3 - (lg_sl ([.ref qk])).length) Slot.unset).toArray = ls at hl ⊢
  have hl : lv_has ls 3 [(0, .ref qk)] := hl
  refine lv_aload_n hx hb d_p4_8_0 rfl (lv_at hl 0 rfl) ?_
  have hPc := hP.sub (ws' := [(qk, .inr (2, [.ref ab, .int 0, .ref ac]))]) [0] rfl
  have hDc := hD.sub (ws' := [(qk, .inr (2, [.ref ab, .int 0, .ref ac]))]) [0] (by decide) rfl
  have hKc := hK.sub (tys' := []) [] rfl
  have hFc := va_free (wc := [(qk, .inr (2, [.ref ab, .int 0, .ref ac]))]) hD hS hA [0] rfl
  refine va_calli (va_runV (As := []) (rest := []) ⟨hx, hb, hml, hown, hts⟩ (c_K_all l dC dI qk ab ac s.heap.size) (cwV 0 hts (gV gd_314 tw_311 tw_313 tw_19 tw_58) rfl rfl rfl (by decide +kernel) ⟨Nat.le_of_ble_eq_true rfl, Nat.le_of_ble_eq_true rfl⟩) ⟨cPre_blind, va_recv hKc hPc (ci := 2) (q0 := 0) rfl rfl, cPre_pre hPc hKc hDc hN⟩ rfl rfl hl.1 rfl (lv_room (Nat.le_of_ble_eq_true rfl)) d_p4_8_1 ⟨Nat.le_of_ble_eq_true rfl, Nat.le_of_ble_eq_true rfl⟩) hS (fun q _ h => hFc q h) hFc (fun r_1 u t H1 locs ht hvm hw hB hz1 hk1 hS => ?_)
  obtain ⟨hP1, hK1, hD1⟩ := hB
  rw [ht] at hP1
  obtain ⟨hP, hD⟩ := va_join (wr := [(ac, .inl (kc, 1, .inr (.inl fc)))]) (w1 := [(qk, .inr (2, [.ref ab, .int 0, .ref ac]))]) hP hD [0] [1] rfl rfl (by decide) (by decide) hk1 hFc hP1 hD1
  generalize H1 = H at hP hS ⊢
  have hP : va_P (dC, dI) classes [(ac, .inl (kc, 1, .inr (.inl fc))), (qk, .inr (2, [.ref ab, .int 0, .ref ac]))] H := hP
  have hD : va_D A [(ac, .inl (kc, 1, .inr (.inl fc))), (qk, .inr (2, [.ref ab, .int 0, .ref ac]))] := hD
  obtain rfl : r_1 = (0 : Int32) := hw
  refine lv_istore_n (lv' := [(1, .int 0), (0, .ref qk)]) hx hb d_p4_8_4 rfl hl (by decide) rfl (fun ls hl => ?_)
  refine lv_aload_n hx hb d_p4_8_5 rfl (lv_at hl 1 rfl) ?_
  refine va_get (D := (dC, dI)) (ci := 2) (v := .ref ac) (C := "StrongParts$KnotOrder") (T := T_2) (N := 3) hx hb hts in_2 hown hK hP 1 rfl rfl 2 (by decide) (hts _ tw_128) (fun _ h9 => h9) rfl d_p4_8_6 ?_
  refine va_alen (v := 1) hx hb hK hP 0 0 rfl rfl rfl d_p4_8_9 ?_
  refine lv_iload_n hx hb d_p4_8_10 rfl (lv_at hl 0 rfl) ?_
  refine lv_icmp_gt (tgt := 23) hx hb d_p4_8_11 (by decide) (fun _ => ?_) (fun c => absurd (by decide) c)
  refine lv_aload_n hx hb d_p4_8_23 rfl (lv_at hl 1 rfl) ?_
  refine va_get (D := (dC, dI)) (ci := 2) (v := .ref ac) (C := "StrongParts$KnotOrder") (T := T_2) (N := 3) hx hb hts in_2 hown hK hP 1 rfl rfl 2 (by decide) (hts _ tw_128) (fun _ h9 => h9) rfl d_p4_8_24 ?_
  refine lv_lconst (v := 0) hx hb d_p4_8_27 (by decide) ?_
  have hPc := hP.sub (ws' := [(ac, .inl (kc, 1, .inr (.inl fc)))]) [0] rfl
  have hDc := hD.sub (ws' := [(ac, .inl (kc, 1, .inr (.inl fc)))]) [0] (by decide) rfl
  have hKc := hK.sub (tys' := [(kc, .long)]) [0] rfl
  have hFc := va_free (wc := [(ac, .inl (kc, 1, .inr (.inl fc)))]) hD hS hA [0] rfl
  refine va_callv (va_runS (As := [.ref ac, .long 0]) (rest := []) ⟨hx, hb, hml, hown, hts⟩ (c_fill_J l dC dI ac kc fc H.size) (va_cwS 2 hts (gS gd_317 tw_315 tw_316 tw_61) rfl rfl rfl (by decide +kernel) ⟨Nat.le_of_ble_eq_true rfl, Nat.le_of_ble_eq_true rfl⟩) ⟨cPre_blind, cPre_pre hPc hKc hDc hN⟩ rfl rfl hl.1 rfl (lv_room (Nat.le_of_ble_eq_true rfl)) d_p4_8_28 ⟨Nat.le_of_ble_eq_true rfl, Nat.le_of_ble_eq_true rfl⟩) hS (fun q _ h => hFc q h) hFc (fun u t H1 locs ht hvm hw hB hz1 hk1 hS => ?_)
  obtain ⟨hP1, hK1, hD1⟩ := hB
  rw [ht] at hP1
  obtain ⟨hP, hD⟩ := va_join (wr := [(qk, .inr (2, [.ref ab, .int 0, .ref ac]))]) (w1 := [(ac, .inl (kc, 1, .inr (.inl (vp_updL fc (Int32.toNatClampNeg 0) 0))))]) hP hD [0] [1] rfl rfl (by decide) (by decide) hk1 hFc hP1 hD1
  generalize H1 = H at hP hS ⊢
  have hP : va_P (dC, dI) classes [(qk, .inr (2, [.ref ab, .int 0, .ref ac])), (ac, .inl (kc, 1, .inr (.inl (vp_updL fc (Int32.toNatClampNeg 0) 0))))] H := hP
  have hD : va_D A [(qk, .inr (2, [.ref ab, .int 0, .ref ac])), (ac, .inl (kc, 1, .inr (.inl (vp_updL fc (Int32.toNatClampNeg 0) 0))))] := hD
  refine lv_aload_n hx hb d_p4_8_31 rfl (lv_at hl 1 rfl) ?_
  refine va_get (D := (dC, dI)) (ci := 2) (v := .ref ac) (C := "StrongParts$KnotOrder") (T := T_2) (N := 3) hx hb hts in_2 hown hK hP 0 rfl rfl 2 (by decide) (hts _ tw_128) (fun _ h9 => h9) rfl d_p4_8_32 ?_
  refine lv_iconst (v := 0) hx hb d_p4_8_35 (by decide) ?_
  refine lv_lconst (v := 1) hx hb d_p4_8_36 (by decide) ?_
  refine va_last hx hb hK hP hD hS 1 0 rfl rfl (i := 0) (by unfold vp_in; decide) d_p4_8_37 (fun H locs hP hD hS => ?_)
  have hP : va_P (dC, dI) classes [(qk, .inr (2, [.ref ab, .int 0, .ref ac])), (ac, .inl (kc, 1, .inr (.inl (vp_updL (vp_updL fc (Int32.toNatClampNeg 0) 0) (Int32.toNatClampNeg 0) 1))))] H := hP
  have hD : va_D A [(qk, .inr (2, [.ref ab, .int 0, .ref ac])), (ac, .inl (kc, 1, .inr (.inl (vp_updL (vp_updL fc (Int32.toNatClampNeg 0) 0) (Int32.toNatClampNeg 0) 1))))] := hD
  refine lv_iconst (v := 0) hx hb d_p4_8_38 (by decide) ?_
  refine lv_istore_n (lv' := [(2, .int 0), (1, .int 0), (0, .ref qk)]) hx hb d_p4_8_39 rfl hl (by decide) rfl (fun ls hl => ?_)
  refine lv_iload_n hx hb d_p4_8_40 rfl (lv_at hl 0 rfl) ?_
  refine lv_iload_n hx hb d_p4_8_41 rfl (lv_at hl 1 rfl) ?_
  refine lv_icmp_ge (tgt := 82) hx hb d_p4_8_42 (by decide) (fun _ => ?_) (fun c => absurd (by decide) c)
  refine lv_iload_n hx hb d_p4_8_82 rfl (lv_at hl 1 rfl) ?_
  refine lv_aload_n hx hb d_p4_8_83 rfl (lv_at hl 2 rfl) ?_
  refine va_get (D := (dC, dI)) (ci := 2) (v := .ref ac) (C := "StrongParts$KnotOrder") (T := T_2) (N := 3) hx hb hts in_2 hown hK hP 0 rfl rfl 2 (by decide) (hts _ tw_128) (fun _ h9 => h9) rfl d_p4_8_84 ?_
  refine va_alen (v := 1) hx hb hK hP 1 0 rfl rfl rfl d_p4_8_87 ?_
  refine lv_icmp_ge (tgt := 100) hx hb d_p4_8_88 (by decide) (fun c => absurd c (by decide)) (fun _ => ?_)
  refine lv_aload_n hx hb d_p4_8_91 rfl (lv_at hl 2 rfl) ?_
  refine va_get (D := (dC, dI)) (ci := 2) (v := .ref ac) (C := "StrongParts$KnotOrder") (T := T_2) (N := 3) hx hb hts in_2 hown hK hP 0 rfl rfl 2 (by decide) (hts _ tw_128) (fun _ h9 => h9) rfl d_p4_8_92 ?_
  refine lv_iload_n hx hb d_p4_8_95 rfl (lv_at hl 1 rfl) ?_
  refine va_lald hx hb hK hP 1 0 rfl rfl (i := 0) (by unfold vp_in; decide) d_p4_8_96 ?_
  refine lv_topl (fun z_3 ez_3 => ?_)
  obtain rfl : z_3 = (1 : Int64) := ez_3.trans (by simp [vp_updL])
  refine lv_goto (tgt := 101) hx hb d_p4_8_97 (by decide) ?_
  have hP9 := hP.sub (ws' := []) [] rfl
  have hD9 := hD.sub (ws' := []) [] (by decide) rfl
  have hK9 := hK.sub (tys' := []) [] rfl
  exact W.lret (v := 1) hx hb hr (fun t ht hW => ⟨⟨1, (), rfl, rfl, cEnd_mk hP9 hK9 hD9 ht hW⟩, hS.F ht⟩) hS.2.2 d_p4_8_101

set_option maxHeartbeats 4000000 in
set_option maxRecDepth 100000 in
theorem c_K_missingArcs (l : Launch) (dC : Nat → ClassId) (dI : Nat → Nat → Nat) (qk : Nat) (ab : Nat) (ac : Nat) (sz : Nat) : Met l ({ cls := "StrongParts$KnotOrder", name := "missingArcs", desc := "()I" } : Jvm.MethodName) (ww ({ cls := "StrongParts$KnotOrder", name := "missingArcs", desc := "()I" } : Jvm.MethodName) prog_4_method_10_code 4 (some .int)) ({ frames := 0, cells := 0, slots := 0, locals := 0 }) (va_Pc [.ref qk] (cPre (dC, dI) [(qk, .inr (2, [.ref ab, .int 0, .ref ac]))] [] sz)) (va_Qi (fun (r : Int32) (_ : Unit) => r = 0) (cEnd (dC, dI) [(qk, .inr (2, [.ref ab, .int 0, .ref ac]))] [] (va_A [(qk, .inr (2, [.ref ab, .int 0, .ref ac]))] sz)) (va_A [(qk, .inr (2, [.ref ab, .int 0, .ref ac]))] sz)) 0 0 (va_A [(qk, .inr (2, [.ref ab, .int 0, .ref ac]))] sz) := by
  refine Met.ofW (cc := prog_4_method_10_code) (maxL := 4) (ret := (some .int)) (by decide) rfl ?_
  intro p e s m args below meth c s₁ B hml hv
  obtain ⟨rfl, hsz, hP, hK, hD0, hN⟩ := hv
  have hx := B.exec
  have hb := B.bytes
  have hr := B.returns
  have hts := ww_hts (atoms_spec (ws := ww ({ cls := "StrongParts$KnotOrder", name := "missingArcs", desc := "()I" } : Jvm.MethodName) prog_4_method_10_code 4 (some .int)) B.pre)
  have hown : s.vm.findClass "StrongParts$KnotOrder" = some m.cls := findClass_of_methodNamed B.named
  have hlocks := B.notSynchronized
  subst hsz
  have hD := hD0.self (sz := s.heap.size)
  generalize hAe : va_A [(qk, .inr (2, [.ref ab, .int 0, .ref ac]))] s.heap.size = A at hD ⊢
  have hA : ∀ q : Nat, s.heap.size ≤ q → A q := fun q h => by rw [← hAe]; exact Or.inr h
  have hS : va_S A s.heap s.heap [] := va_S.rf
  have hP : va_P (dC, dI) classes [(qk, .inr (2, [.ref ab, .int 0, .ref ac]))] s.heap := hP
  have hl := lv_entry ([.ref qk]) (n := 4) (Nat.le_of_ble_eq_true rfl)
  rw [lg_entry_eq]
  generalize (lg_sl ([.ref qk]) ++ List.replicate (4 - (lg_sl ([.ref qk])).length) Slot.unset).toArray = ls at hl ⊢
  have hl : lv_has ls 4 [(0, .ref qk)] := hl
  refine lv_aload_n hx hb d_p4_10_0 rfl (lv_at hl 0 rfl) ?_
  refine va_get (D := (dC, dI)) (ci := 2) (v := .int 0) (C := "StrongParts$KnotOrder") (T := T_2) (N := 3) hx hb hts in_2 hown hK hP 0 rfl rfl 1 (by decide) (hts _ tw_126) (fun _ h9 => h9) rfl d_p4_10_1 ?_
  refine lv_iconst (v := 1) hx hb d_p4_10_4 (by decide) ?_
  refine lv_icmp_gt (tgt := 10) hx hb d_p4_10_5 (by decide) (fun c => absurd c (by decide)) (fun _ => ?_)
  refine lv_iconst (v := 0) hx hb d_p4_10_8 (by decide) ?_
  have hP9 := hP.sub (ws' := [(qk, .inr (2, [.ref ab, .int 0, .ref ac]))]) [0] rfl
  have hD9 := hD.sub (ws' := [(qk, .inr (2, [.ref ab, .int 0, .ref ac]))]) [0] (by decide) rfl
  have hK9 := hK.sub (tys' := []) [] rfl
  exact W.iret (v := 0) hx hb hr (fun t ht hW => ⟨⟨0, (), rfl, rfl, cEnd_mk hP9 hK9 hD9 ht hW⟩, hS.F ht⟩) hS.2.2 d_p4_10_9

set_option maxHeartbeats 4000000 in
set_option maxRecDepth 100000 in
theorem c_X_arePair (l : Launch) (dC : Nat → ClassId) (dI : Nat → Nat → Nat) (qx : Nat) (qg : Nat) (qr : Nat) (qk : Nat) (ql : Nat) (ao : Nat) (ai : Nat) (an : Nat) (p0 : Int32) (p1 : Int32) (sz : Nat) : Met l ({ cls := "StrongParts", name := "arePair", desc := "(II)Z" } : Jvm.MethodName) (ww ({ cls := "StrongParts", name := "arePair", desc := "(II)Z" } : Jvm.MethodName) prog_1_method_29_code 3 (some .boolean)) ({ frames := 1, cells := 0, slots := 0, locals := 21 }) (va_Pc [.ref qx, .int p0, .int p1] (cPre (dC, dI) [(qx, .inr (4, [.ref qg, .ref qr, .ref qk, .ref ql])), (qg, .inr (0, [.ref ao, .ref ai, .ref an, .int 0, .int 0]))] [] sz)) (va_Qi (fun (r : Int32) (_ : Unit) => r = 0) (cEnd (dC, dI) [(qx, .inr (4, [.ref qg, .ref qr, .ref qk, .ref ql])), (qg, .inr (0, [.ref ao, .ref ai, .ref an, .int 0, .int 0]))] [] (va_A [(qx, .inr (4, [.ref qg, .ref qr, .ref qk, .ref ql])), (qg, .inr (0, [.ref ao, .ref ai, .ref an, .int 0, .int 0]))] sz)) (va_A [(qx, .inr (4, [.ref qg, .ref qr, .ref qk, .ref ql])), (qg, .inr (0, [.ref ao, .ref ai, .ref an, .int 0, .int 0]))] sz)) 0 0 (va_A [(qx, .inr (4, [.ref qg, .ref qr, .ref qk, .ref ql])), (qg, .inr (0, [.ref ao, .ref ai, .ref an, .int 0, .int 0]))] sz) := by
  refine Met.ofW (cc := prog_1_method_29_code) (maxL := 3) (ret := (some .boolean)) (by decide) rfl ?_
  intro p e s m args below meth c s₁ B hml hv
  obtain ⟨rfl, hsz, hP, hK, hD0, hN⟩ := hv
  have hx := B.exec
  have hb := B.bytes
  have hr := B.returns
  have hts := ww_hts (atoms_spec (ws := ww ({ cls := "StrongParts", name := "arePair", desc := "(II)Z" } : Jvm.MethodName) prog_1_method_29_code 3 (some .boolean)) B.pre)
  have hown : s.vm.findClass "StrongParts" = some m.cls := findClass_of_methodNamed B.named
  have hlocks := B.notSynchronized
  subst hsz
  have hD := hD0.self (sz := s.heap.size)
  generalize hAe : va_A [(qx, .inr (4, [.ref qg, .ref qr, .ref qk, .ref ql])), (qg, .inr (0, [.ref ao, .ref ai, .ref an, .int 0, .int 0]))] s.heap.size = A at hD ⊢
  have hA : ∀ q : Nat, s.heap.size ≤ q → A q := fun q h => by rw [← hAe]; exact Or.inr h
  have hS : va_S A s.heap s.heap [] := va_S.rf
  have hP : va_P (dC, dI) classes [(qx, .inr (4, [.ref qg, .ref qr, .ref qk, .ref ql])), (qg, .inr (0, [.ref ao, .ref ai, .ref an, .int 0, .int 0]))] s.heap := hP
  have hl := lv_entry ([.ref qx, .int p0, .int p1]) (n := 3) (Nat.le_of_ble_eq_true rfl)
  rw [lg_entry_eq]
  generalize (lg_sl ([.ref qx, .int p0, .int p1]) ++ List.replicate (3 - (lg_sl ([.ref qx, .int p0, .int p1])).length) Slot.unset).toArray = ls at hl ⊢
  have hl : lv_has ls 3 [(0, .ref qx), (1, .int p0), (2, .int p1)] := hl
  refine lv_aload_n hx hb d_p1_29_0 rfl (lv_at hl 0 rfl) ?_
  refine va_get (D := (dC, dI)) (ci := 4) (v := .ref qg) (C := "StrongParts") (T := T_4) (N := 4) hx hb hts in_4 hown hK hP 0 rfl rfl 0 (by decide) (hts _ tw_147) (fun _ h9 => h9) rfl d_p1_29_1 ?_
  refine lv_iload_n hx hb d_p1_29_4 rfl (lv_at hl 1 rfl) ?_
  have hPc := hP.sub (ws' := [(qg, .inr (0, [.ref ao, .ref ai, .ref an, .int 0, .int 0]))]) [1] rfl
  have hDc := hD.sub (ws' := [(qg, .inr (0, [.ref ao, .ref ai, .ref an, .int 0, .int 0]))]) [1] (by decide) rfl
  have hKc := hK.sub (tys' := []) [] rfl
  have hFc := va_free (wc := [(qg, .inr (0, [.ref ao, .ref ai, .ref an, .int 0, .int 0]))]) hD hS hA [1] rfl
  refine va_calli (va_runVN (As := [.int p0]) (rest := []) ⟨hx, hb, hml, hown, hts⟩ (c_G_isNode l dC dI qg ao ai an p0 s.heap.size) (⟨va_cnB 1 hts (gd_186) rfl rfl rfl (hN _ nw_183) (hts _ tw_56) (by decide +kernel) ⟨Nat.le_of_ble_eq_true rfl, Nat.le_of_ble_eq_true rfl⟩, hts _ tw_185, hts _ tw_2⟩) ⟨cPre_blind, va_recv hKc hPc (ci := 0) (q0 := 0) rfl rfl, cPre_pre hPc hKc hDc hN⟩ rfl rfl hl.1 rfl (lv_room (Nat.le_of_ble_eq_true rfl)) d_p1_29_5 ⟨Nat.le_of_ble_eq_true rfl, Nat.le_of_ble_eq_true rfl⟩) hS (fun q _ h => hFc q h) hFc (fun r_1 u t H1 locs ht hvm hw hB hz1 hk1 hS => ?_)
  obtain ⟨hP1, hK1, hD1⟩ := hB
  rw [ht] at hP1
  obtain ⟨hP, hD⟩ := va_join (wr := [(qx, .inr (4, [.ref qg, .ref qr, .ref qk, .ref ql]))]) (w1 := [(qg, .inr (0, [.ref ao, .ref ai, .ref an, .int 0, .int 0]))]) hP hD [1] [0] rfl rfl (by decide) (by decide) hk1 hFc hP1 hD1
  generalize H1 = H at hP hS ⊢
  have hP : va_P (dC, dI) classes [(qx, .inr (4, [.ref qg, .ref qr, .ref qk, .ref ql])), (qg, .inr (0, [.ref ao, .ref ai, .ref an, .int 0, .int 0]))] H := hP
  have hD : va_D A [(qx, .inr (4, [.ref qg, .ref qr, .ref qk, .ref ql])), (qg, .inr (0, [.ref ao, .ref ai, .ref an, .int 0, .int 0]))] := hD
  obtain rfl : r_1 = (0 : Int32) := hw
  refine lv_if_eq (tgt := 26) hx hb d_p1_29_8 (by decide) (fun _ => ?_) (fun c => absurd (by decide) c)
  refine lv_iconst (v := 0) hx hb d_p1_29_26 (by decide) ?_
  have hP9 := hP.sub (ws' := [(qx, .inr (4, [.ref qg, .ref qr, .ref qk, .ref ql])), (qg, .inr (0, [.ref ao, .ref ai, .ref an, .int 0, .int 0]))]) [0, 1] rfl
  have hD9 := hD.sub (ws' := [(qx, .inr (4, [.ref qg, .ref qr, .ref qk, .ref ql])), (qg, .inr (0, [.ref ao, .ref ai, .ref an, .int 0, .int 0]))]) [0, 1] (by decide) rfl
  have hK9 := hK.sub (tys' := []) [] rfl
  exact W.zret (v := 0) hx hb hr rfl (fun t ht hW => ⟨⟨0, (), rfl, rfl, cEnd_mk hP9 hK9 hD9 ht hW⟩, hS.F ht⟩) hS.2.2 d_p1_29_27

set_option maxHeartbeats 4000000 in
set_option maxRecDepth 100000 in
theorem c_X_orderKnots (l : Launch) (dC : Nat → ClassId) (dI : Nat → Nat → Nat) (qx : Nat) (qg : Nat) (qr : Nat) (qk : Nat) (ql : Nat) (ao : Nat) (ai : Nat) (an : Nat) (as_ : Nat) (ab : Nat) (ac : Nat) (sz : Nat) : Met l ({ cls := "StrongParts", name := "orderKnots", desc := "()V" } : Jvm.MethodName) (ww ({ cls := "StrongParts", name := "orderKnots", desc := "()V" } : Jvm.MethodName) prog_1_method_30_code 1 none) ({ frames := 2, cells := 0, slots := 0, locals := 47 }) (va_Pc [.ref qx] (cPre (dC, dI) [(qx, .inr (4, [.ref qg, .ref qr, .ref qk, .ref ql])), (qg, .inr (0, [.ref ao, .ref ai, .ref an, .int 0, .int 0])), (qr, .inr (1, [.ref as_, .int 0])), (qk, .inr (2, [.ref ab, .int 0, .ref ac]))] [] sz)) (va_Qv (fun _ : Unit => True) (cEnd (dC, dI) [(qx, .inr (4, [.ref qg, .ref qr, .ref qk, .ref ql])), (qg, .inr (0, [.ref ao, .ref ai, .ref an, .int 0, .int 0])), (qr, .inr (1, [.ref as_, .int 0])), (qk, .inr (2, [.ref ab, .int 0, .ref ac]))] [] (va_A [(qx, .inr (4, [.ref qg, .ref qr, .ref qk, .ref ql])), (qg, .inr (0, [.ref ao, .ref ai, .ref an, .int 0, .int 0])), (qr, .inr (1, [.ref as_, .int 0])), (qk, .inr (2, [.ref ab, .int 0, .ref ac]))] sz)) (va_A [(qx, .inr (4, [.ref qg, .ref qr, .ref qk, .ref ql])), (qg, .inr (0, [.ref ao, .ref ai, .ref an, .int 0, .int 0])), (qr, .inr (1, [.ref as_, .int 0])), (qk, .inr (2, [.ref ab, .int 0, .ref ac]))] sz)) 0 0 (va_A [(qx, .inr (4, [.ref qg, .ref qr, .ref qk, .ref ql])), (qg, .inr (0, [.ref ao, .ref ai, .ref an, .int 0, .int 0])), (qr, .inr (1, [.ref as_, .int 0])), (qk, .inr (2, [.ref ab, .int 0, .ref ac]))] sz) := by
  refine Met.ofW (cc := prog_1_method_30_code) (maxL := 1) (ret := none) (by decide) rfl ?_
  intro p e s m args below meth c s₁ B hml hv
  obtain ⟨rfl, hsz, hP, hK, hD0, hN⟩ := hv
  have hx := B.exec
  have hb := B.bytes
  have hr := B.returns
  have hts := ww_hts (atoms_spec (ws := ww ({ cls := "StrongParts", name := "orderKnots", desc := "()V" } : Jvm.MethodName) prog_1_method_30_code 1 none) B.pre)
  have hown : s.vm.findClass "StrongParts" = some m.cls := findClass_of_methodNamed B.named
  have hlocks := B.notSynchronized
  subst hsz
  have hD := hD0.self (sz := s.heap.size)
  generalize hAe : va_A [(qx, .inr (4, [.ref qg, .ref qr, .ref qk, .ref ql])), (qg, .inr (0, [.ref ao, .ref ai, .ref an, .int 0, .int 0])), (qr, .inr (1, [.ref as_, .int 0])), (qk, .inr (2, [.ref ab, .int 0, .ref ac]))] s.heap.size = A at hD ⊢
  have hA : ∀ q : Nat, s.heap.size ≤ q → A q := fun q h => by rw [← hAe]; exact Or.inr h
  have hS : va_S A s.heap s.heap [] := va_S.rf
  have hP : va_P (dC, dI) classes [(qx, .inr (4, [.ref qg, .ref qr, .ref qk, .ref ql])), (qg, .inr (0, [.ref ao, .ref ai, .ref an, .int 0, .int 0])), (qr, .inr (1, [.ref as_, .int 0])), (qk, .inr (2, [.ref ab, .int 0, .ref ac]))] s.heap := hP
  have hl := lv_entry ([.ref qx]) (n := 1) (Nat.le_of_ble_eq_true rfl)
  rw [lg_entry_eq]
  generalize (lg_sl ([.ref qx]) ++ List.replicate (1 - (lg_sl ([.ref qx])).length) Slot.unset).toArray = ls at hl ⊢
  have hl : lv_has ls 1 [(0, .ref qx)] := hl
  refine lv_aload_n hx hb d_p1_30_0 rfl (lv_at hl 0 rfl) ?_
  refine va_get (D := (dC, dI)) (ci := 4) (v := .ref qr) (C := "StrongParts") (T := T_4) (N := 4) hx hb hts in_4 hown hK hP 0 rfl rfl 1 (by decide) (hts _ tw_148) (fun _ h9 => h9) rfl d_p1_30_1 ?_
  refine lv_aload_n hx hb d_p1_30_4 rfl (lv_at hl 0 rfl) ?_
  refine va_get (D := (dC, dI)) (ci := 4) (v := .ref qg) (C := "StrongParts") (T := T_4) (N := 4) hx hb hts in_4 hown hK hP 0 rfl rfl 0 (by decide) (hts _ tw_147) (fun _ h9 => h9) rfl d_p1_30_5 ?_
  have hPc := hP.sub (ws' := [(qr, .inr (1, [.ref as_, .int 0])), (qg, .inr (0, [.ref ao, .ref ai, .ref an, .int 0, .int 0]))]) [2, 1] rfl
  have hDc := hD.sub (ws' := [(qr, .inr (1, [.ref as_, .int 0])), (qg, .inr (0, [.ref ao, .ref ai, .ref an, .int 0, .int 0]))]) [2, 1] (by decide) rfl
  have hKc := hK.sub (tys' := []) [] rfl
  have hFc := va_free (wc := [(qr, .inr (1, [.ref as_, .int 0])), (qg, .inr (0, [.ref ao, .ref ai, .ref an, .int 0, .int 0]))]) hD hS hA [2, 1] rfl
  refine va_callv (va_runVN (As := [.ref qg]) (rest := []) ⟨hx, hb, hml, hown, hts⟩ (c_GR_takeKnots l dC dI qr qg as_ ao ai an s.heap.size) (⟨va_cnB 1 hts (gd_227) rfl rfl rfl (hN _ nw_224) (hts _ tw_57) (by decide +kernel) ⟨Nat.le_of_ble_eq_true rfl, Nat.le_of_ble_eq_true rfl⟩, hts _ tw_226, hts _ tw_7⟩) ⟨cPre_blind, va_recv hKc hPc (ci := 1) (q0 := 0) rfl rfl, cPre_pre hPc hKc hDc hN⟩ rfl rfl hl.1 rfl (lv_room (Nat.le_of_ble_eq_true rfl)) d_p1_30_8 ⟨Nat.le_of_ble_eq_true rfl, Nat.le_of_ble_eq_true rfl⟩) hS (fun q _ h => hFc q h) hFc (fun u t H1 locs ht hvm hw hB hz1 hk1 hS => ?_)
  obtain ⟨hP1, hK1, hD1⟩ := hB
  rw [ht] at hP1
  obtain ⟨hP, hD⟩ := va_join (wr := [(qx, .inr (4, [.ref qg, .ref qr, .ref qk, .ref ql])), (qk, .inr (2, [.ref ab, .int 0, .ref ac]))]) (w1 := [(qr, .inr (1, [.ref as_, .int 0])), (qg, .inr (0, [.ref ao, .ref ai, .ref an, .int 0, .int 0]))]) hP hD [2, 1] [0, 3] rfl rfl (by decide) (by decide) hk1 hFc hP1 hD1
  generalize H1 = H at hP hS ⊢
  have hP : va_P (dC, dI) classes [(qx, .inr (4, [.ref qg, .ref qr, .ref qk, .ref ql])), (qk, .inr (2, [.ref ab, .int 0, .ref ac])), (qr, .inr (1, [.ref as_, .int 0])), (qg, .inr (0, [.ref ao, .ref ai, .ref an, .int 0, .int 0]))] H := hP
  have hD : va_D A [(qx, .inr (4, [.ref qg, .ref qr, .ref qk, .ref ql])), (qk, .inr (2, [.ref ab, .int 0, .ref ac])), (qr, .inr (1, [.ref as_, .int 0])), (qg, .inr (0, [.ref ao, .ref ai, .ref an, .int 0, .int 0]))] := hD
  refine lv_aload_n hx hb d_p1_30_11 rfl (lv_at hl 0 rfl) ?_
  refine va_get (D := (dC, dI)) (ci := 4) (v := .ref qk) (C := "StrongParts") (T := T_4) (N := 4) hx hb hts in_4 hown hK hP 0 rfl rfl 2 (by decide) (hts _ tw_149) (fun _ h9 => h9) rfl d_p1_30_12 ?_
  refine lv_aload_n hx hb d_p1_30_15 rfl (lv_at hl 0 rfl) ?_
  refine va_get (D := (dC, dI)) (ci := 4) (v := .ref qg) (C := "StrongParts") (T := T_4) (N := 4) hx hb hts in_4 hown hK hP 0 rfl rfl 0 (by decide) (hts _ tw_147) (fun _ h9 => h9) rfl d_p1_30_16 ?_
  refine lv_aload_n hx hb d_p1_30_19 rfl (lv_at hl 0 rfl) ?_
  refine va_get (D := (dC, dI)) (ci := 4) (v := .ref qr) (C := "StrongParts") (T := T_4) (N := 4) hx hb hts in_4 hown hK hP 0 rfl rfl 1 (by decide) (hts _ tw_148) (fun _ h9 => h9) rfl d_p1_30_20 ?_
  have hPc := hP.sub (ws' := [(qk, .inr (2, [.ref ab, .int 0, .ref ac])), (qr, .inr (1, [.ref as_, .int 0]))]) [1, 2] rfl
  have hDc := hD.sub (ws' := [(qk, .inr (2, [.ref ab, .int 0, .ref ac])), (qr, .inr (1, [.ref as_, .int 0]))]) [1, 2] (by decide) rfl
  have hKc := hK.sub (tys' := []) [] rfl
  have hFc := va_free (wc := [(qk, .inr (2, [.ref ab, .int 0, .ref ac])), (qr, .inr (1, [.ref as_, .int 0]))]) hD hS hA [1, 2] rfl
  refine va_callv (va_runVN (As := [.ref qg, .ref qr]) (rest := []) ⟨hx, hb, hml, hown, hts⟩ (c_K_take l dC dI qk qg qr ab ac as_ H.size) (⟨va_cnB 2 hts (gd_281) rfl rfl rfl (hN _ nw_278) (hts _ tw_58) (by decide +kernel) ⟨Nat.le_of_ble_eq_true rfl, Nat.le_of_ble_eq_true rfl⟩, hts _ tw_280, hts _ tw_14⟩) ⟨cPre_blind, va_recv hKc hPc (ci := 2) (q0 := 0) rfl rfl, cPre_pre hPc hKc hDc hN⟩ rfl rfl hl.1 rfl (lv_room (Nat.le_of_ble_eq_true rfl)) d_p1_30_23 ⟨Nat.le_of_ble_eq_true rfl, Nat.le_of_ble_eq_true rfl⟩) hS (fun q _ h => hFc q h) hFc (fun u t H1 locs ht hvm hw hB hz1 hk1 hS => ?_)
  obtain ⟨hP1, hK1, hD1⟩ := hB
  rw [ht] at hP1
  obtain ⟨hP, hD⟩ := va_join (wr := [(qx, .inr (4, [.ref qg, .ref qr, .ref qk, .ref ql])), (qg, .inr (0, [.ref ao, .ref ai, .ref an, .int 0, .int 0]))]) (w1 := [(qk, .inr (2, [.ref ab, .int 0, .ref ac])), (qr, .inr (1, [.ref as_, .int 0]))]) hP hD [1, 2] [0, 3] rfl rfl (by decide) (by decide) hk1 hFc hP1 hD1
  generalize H1 = H at hP hS ⊢
  have hP : va_P (dC, dI) classes [(qx, .inr (4, [.ref qg, .ref qr, .ref qk, .ref ql])), (qg, .inr (0, [.ref ao, .ref ai, .ref an, .int 0, .int 0])), (qk, .inr (2, [.ref ab, .int 0, .ref ac])), (qr, .inr (1, [.ref as_, .int 0]))] H := hP
  have hD : va_D A [(qx, .inr (4, [.ref qg, .ref qr, .ref qk, .ref ql])), (qg, .inr (0, [.ref ao, .ref ai, .ref an, .int 0, .int 0])), (qk, .inr (2, [.ref ab, .int 0, .ref ac])), (qr, .inr (1, [.ref as_, .int 0]))] := hD
  have hP9 := hP.sub (ws' := [(qx, .inr (4, [.ref qg, .ref qr, .ref qk, .ref ql])), (qg, .inr (0, [.ref ao, .ref ai, .ref an, .int 0, .int 0])), (qr, .inr (1, [.ref as_, .int 0])), (qk, .inr (2, [.ref ab, .int 0, .ref ac]))]) [0, 1, 3, 2] rfl
  have hD9 := hD.sub (ws' := [(qx, .inr (4, [.ref qg, .ref qr, .ref qk, .ref ql])), (qg, .inr (0, [.ref ao, .ref ai, .ref an, .int 0, .int 0])), (qr, .inr (1, [.ref as_, .int 0])), (qk, .inr (2, [.ref ab, .int 0, .ref ac]))]) [0, 1, 3, 2] (by decide) rfl
  have hK9 := hK.sub (tys' := []) [] rfl
  exact W.vret hx hb hr (fun t ht hW => ⟨⟨(), rfl, trivial, cEnd_mk hP9 hK9 hD9 ht hW⟩, hS.F ht⟩) hS.2.2 d_p1_30_26

set_option maxHeartbeats 4000000 in
set_option maxRecDepth 100000 in
theorem c_X_shortestOdd (l : Launch) (dC : Nat → ClassId) (dI : Nat → Nat → Nat) (qx : Nat) (qg : Nat) (qr : Nat) (qk : Nat) (ql : Nat) (ao : Nat) (ai : Nat) (an : Nat) (sz : Nat) : Met l ({ cls := "StrongParts", name := "shortestOdd", desc := "()I" } : Jvm.MethodName) (ww ({ cls := "StrongParts", name := "shortestOdd", desc := "()I" } : Jvm.MethodName) prog_1_method_31_code 4 (some .int)) ({ frames := 0, cells := 0, slots := 0, locals := 0 }) (va_Pc [.ref qx] (cPre (dC, dI) [(qx, .inr (4, [.ref qg, .ref qr, .ref qk, .ref ql])), (qg, .inr (0, [.ref ao, .ref ai, .ref an, .int 0, .int 0]))] [] sz)) (va_Qi (fun (r : Int32) (_ : Unit) => r = (-1)) (cEnd (dC, dI) [(qx, .inr (4, [.ref qg, .ref qr, .ref qk, .ref ql])), (qg, .inr (0, [.ref ao, .ref ai, .ref an, .int 0, .int 0]))] [] (va_A [(qx, .inr (4, [.ref qg, .ref qr, .ref qk, .ref ql])), (qg, .inr (0, [.ref ao, .ref ai, .ref an, .int 0, .int 0]))] sz)) (va_A [(qx, .inr (4, [.ref qg, .ref qr, .ref qk, .ref ql])), (qg, .inr (0, [.ref ao, .ref ai, .ref an, .int 0, .int 0]))] sz)) 0 0 (va_A [(qx, .inr (4, [.ref qg, .ref qr, .ref qk, .ref ql])), (qg, .inr (0, [.ref ao, .ref ai, .ref an, .int 0, .int 0]))] sz) := by
  refine Met.ofW (cc := prog_1_method_31_code) (maxL := 4) (ret := (some .int)) (by decide) rfl ?_
  intro p e s m args below meth c s₁ B hml hv
  obtain ⟨rfl, hsz, hP, hK, hD0, hN⟩ := hv
  have hx := B.exec
  have hb := B.bytes
  have hr := B.returns
  have hts := ww_hts (atoms_spec (ws := ww ({ cls := "StrongParts", name := "shortestOdd", desc := "()I" } : Jvm.MethodName) prog_1_method_31_code 4 (some .int)) B.pre)
  have hown : s.vm.findClass "StrongParts" = some m.cls := findClass_of_methodNamed B.named
  have hlocks := B.notSynchronized
  subst hsz
  have hD := hD0.self (sz := s.heap.size)
  generalize hAe : va_A [(qx, .inr (4, [.ref qg, .ref qr, .ref qk, .ref ql])), (qg, .inr (0, [.ref ao, .ref ai, .ref an, .int 0, .int 0]))] s.heap.size = A at hD ⊢
  have hA : ∀ q : Nat, s.heap.size ≤ q → A q := fun q h => by rw [← hAe]; exact Or.inr h
  have hS : va_S A s.heap s.heap [] := va_S.rf
  have hP : va_P (dC, dI) classes [(qx, .inr (4, [.ref qg, .ref qr, .ref qk, .ref ql])), (qg, .inr (0, [.ref ao, .ref ai, .ref an, .int 0, .int 0]))] s.heap := hP
  have hl := lv_entry ([.ref qx]) (n := 4) (Nat.le_of_ble_eq_true rfl)
  rw [lg_entry_eq]
  generalize (lg_sl ([.ref qx]) ++ List.replicate (4 - (lg_sl ([.ref qx])).length) Slot.unset).toArray = ls at hl ⊢
  have hl : lv_has ls 4 [(0, .ref qx)] := hl
  refine lv_iconst (v := (-1)) hx hb d_p1_31_0 (by decide) ?_
  refine lv_istore_n (lv' := [(1, .int (-1)), (0, .ref qx)]) hx hb d_p1_31_1 rfl hl (by decide) rfl (fun ls hl => ?_)
  refine lv_iconst (v := 0) hx hb d_p1_31_2 (by decide) ?_
  refine lv_istore_n (lv' := [(2, .int 0), (1, .int (-1)), (0, .ref qx)]) hx hb d_p1_31_3 rfl hl (by decide) rfl (fun ls hl => ?_)
  refine lv_iload_n hx hb d_p1_31_4 rfl (lv_at hl 0 rfl) ?_
  refine lv_aload_n hx hb d_p1_31_5 rfl (lv_at hl 2 rfl) ?_
  refine va_get (D := (dC, dI)) (ci := 4) (v := .ref qg) (C := "StrongParts") (T := T_4) (N := 4) hx hb hts in_4 hown hK hP 0 rfl rfl 0 (by decide) (hts _ tw_147) (fun _ h9 => h9) rfl d_p1_31_6 ?_
  refine va_getN (D := (dC, dI)) (ci := 0) (v := .int 0) (C := "StrongParts$Graph") (T := T_0) (N := 5) hx hb hts in_0 hown hK hP 1 rfl rfl 3 (by decide) (va_Nw.use rfl (hN _ nw_85)) (fun _ h9 => h9) rfl d_p1_31_9 ?_
  refine lv_icmp_ge (tgt := 65) hx hb d_p1_31_12 (by decide) (fun _ => ?_) (fun c => absurd (by decide) c)
  refine lv_iload_n hx hb d_p1_31_65 rfl (lv_at hl 1 rfl) ?_
  have hP9 := hP.sub (ws' := [(qx, .inr (4, [.ref qg, .ref qr, .ref qk, .ref ql])), (qg, .inr (0, [.ref ao, .ref ai, .ref an, .int 0, .int 0]))]) [0, 1] rfl
  have hD9 := hD.sub (ws' := [(qx, .inr (4, [.ref qg, .ref qr, .ref qk, .ref ql])), (qg, .inr (0, [.ref ao, .ref ai, .ref an, .int 0, .int 0]))]) [0, 1] (by decide) rfl
  have hK9 := hK.sub (tys' := []) [] rfl
  exact W.iret (v := (-1)) hx hb hr (fun t ht hW => ⟨⟨(-1), (), rfl, rfl, cEnd_mk hP9 hK9 hD9 ht hW⟩, hS.F ht⟩) hS.2.2 d_p1_31_66
