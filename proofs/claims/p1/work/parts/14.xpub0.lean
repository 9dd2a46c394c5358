set_option maxHeartbeats 4000000 in
set_option maxRecDepth 100000 in
theorem c_X_clear (l : Launch) (dC : Nat → ClassId) (dI : Nat → Nat → Nat) (qx : Nat) (qg : Nat) (qr : Nat) (qk : Nat) (ql : Nat) (ao : Nat) (ai : Nat) (an : Nat) (ko : ClassId) (fo : Nat → Int32) (ki : ClassId) (fi : Nat → Int32) (kn : ClassId) (fn_ : Nat → Int32) (sz : Nat) : Met l ({ cls := "StrongParts", name := "clear", desc := "()I" } : Jvm.MethodName) (ww ({ cls := "StrongParts", name := "clear", desc := "()I" } : Jvm.MethodName) prog_1_method_2_code 2 (some .int)) ({ frames := 2, cells := 0, slots := 0, locals := 43 }) (va_Pc [.ref qx] (cPre (dC, dI) [(qx, .inr (4, [.ref qg, .ref qr, .ref qk, .ref ql])), (qg, .inr (0, [.ref ao, .ref ai, .ref an, .int 0, .int 0])), (ao, .inl (ko, 15, .inl fo)), (ai, .inl (ki, 15, .inl fi)), (an, .inl (kn, 15, .inl fn_))] [(ko, .int), (ki, .int), (kn, .int)] sz)) (va_Qi (fun (r : Int32) (_ : Unit) => r = 0) (cEnd (dC, dI) [] [] (va_A [(qx, .inr (4, [.ref qg, .ref qr, .ref qk, .ref ql])), (qg, .inr (0, [.ref ao, .ref ai, .ref an, .int 0, .int 0])), (ao, .inl (ko, 15, .inl fo)), (ai, .inl (ki, 15, .inl fi)), (an, .inl (kn, 15, .inl fn_))] sz)) (va_A [(qx, .inr (4, [.ref qg, .ref qr, .ref qk, .ref ql])), (qg, .inr (0, [.ref ao, .ref ai, .ref an, .int 0, .int 0])), (ao, .inl (ko, 15, .inl fo)), (ai, .inl (ki, 15, .inl fi)), (an, .inl (kn, 15, .inl fn_))] sz)) 0 0 (va_A [(qx, .inr (4, [.ref qg, .ref qr, .ref qk, .ref ql])), (qg, .inr (0, [.ref ao, .ref ai, .ref an, .int 0, .int 0])), (ao, .inl (ko, 15, .inl fo)), (ai, .inl (ki, 15, .inl fi)), (an, .inl (kn, 15, .inl fn_))] sz) := by
  refine Met.ofW (cc := prog_1_method_2_code) (maxL := 2) (ret := (some .int)) (by decide) rfl ?_
  intro p e s m args below meth c s₁ B hml hv
  obtain ⟨rfl, hsz, hP, hK, hD0, hN⟩ := hv
  have hx := B.exec
  have hb := B.bytes
  have hr := B.returns
  have hts := ww_hts (atoms_spec (ws := ww ({ cls := "StrongParts", name := "clear", desc := "()I" } : Jvm.MethodName) prog_1_method_2_code 2 (some .int)) B.pre)
  have hown : s.vm.findClass "StrongParts" = some m.cls := findClass_of_methodNamed B.named
  have hlocks := B.notSynchronized
  subst hsz
  have hD := hD0.self (sz := s.heap.size)
  generalize hAe : va_A [(qx, .inr (4, [.ref qg, .ref qr, .ref qk, .ref ql])), (qg, .inr (0, [.ref ao, .ref ai, .ref an, .int 0, .int 0])), (ao, .inl (ko, 15, .inl fo)), (ai, .inl (ki, 15, .inl fi)), (an, .inl (kn, 15, .inl fn_))] s.heap.size = A at hD ⊢
  have hA : ∀ q : Nat, s.heap.size ≤ q → A q := fun q h => by rw [← hAe]; exact Or.inr h
  have hS : va_S A s.heap s.heap [] := va_S.rf
  have hP : va_P (dC, dI) classes [(qx, .inr (4, [.ref qg, .ref qr, .ref qk, .ref ql])), (qg, .inr (0, [.ref ao, .ref ai, .ref an, .int 0, .int 0])), (ao, .inl (ko, 15, .inl fo)), (ai, .inl (ki, 15, .inl fi)), (an, .inl (kn, 15, .inl fn_))] s.heap := hP
  have hl := lv_entry ([.ref qx]) (n := 2) (Nat.le_of_ble_eq_true rfl)
  rw [lg_entry_eq]
  generalize (lg_sl ([.ref qx]) ++ List.replicate (2 - (lg_sl ([.ref qx])).length) Slot.unset).toArray = ls at hl ⊢
  have hl : lv_has ls 2 [(0, .ref qx)] := hl
  refine lv_aload_n hx hb d_p1_2_0 rfl (lv_at hl 0 rfl) ?_
  refine va_get (D := (dC, dI)) (ci := 4) (v := .ref qg) (C := "StrongParts") (T := T_4) (N := 4) hx hb hts in_4 hown hK hP 0 rfl rfl 0 (by decide) (hts _ tw_147) (fun _ h9 => h9) rfl d_p1_2_1 ?_
  refine va_getN (D := (dC, dI)) (ci := 0) (v := .int 0) (C := "StrongParts$Graph") (T := T_0) (N := 5) hx hb hts in_0 hown hK hP 1 rfl rfl 3 (by decide) (va_Nw.use rfl (hN _ nw_85)) (fun _ h9 => h9) rfl d_p1_2_4 ?_
  refine lv_istore_n (lv' := [(1, .int 0), (0, .ref qx)]) hx hb d_p1_2_7 rfl hl (by decide) rfl (fun ls hl => ?_)
  refine lv_aload_n hx hb d_p1_2_8 rfl (lv_at hl 1 rfl) ?_
  refine va_get (D := (dC, dI)) (ci := 4) (v := .ref qg) (C := "StrongParts") (T := T_4) (N := 4) hx hb hts in_4 hown hK hP 0 rfl rfl 0 (by decide) (hts _ tw_147) (fun _ h9 => h9) rfl d_p1_2_9 ?_
  have hPc := hP.sub (ws' := [(qg, .inr (0, [.ref ao, .ref ai, .ref an, .int 0, .int 0])), (ao, .inl (ko, 15, .inl fo)), (ai, .inl (ki, 15, .inl fi)), (an, .inl (kn, 15, .inl fn_))]) [1, 2, 3, 4] rfl
  have hDc := hD.sub (ws' := [(qg, .inr (0, [.ref ao, .ref ai, .ref an, .int 0, .int 0])), (ao, .inl (ko, 15, .inl fo)), (ai, .inl (ki, 15, .inl fi)), (an, .inl (kn, 15, .inl fn_))]) [1, 2, 3, 4] (by decide) rfl
  have hKc := hK.sub (tys' := [(ko, .int), (ki, .int), (kn, .int)]) [0, 1, 2] rfl
  have hFc := va_free (wc := [(qg, .inr (0, [.ref ao, .ref ai, .ref an, .int 0, .int 0])), (ao, .inl (ko, 15, .inl fo)), (ai, .inl (ki, 15, .inl fi)), (an, .inl (kn, 15, .inl fn_))]) hD hS hA [1, 2, 3, 4] rfl
  refine va_callv (va_runVN (As := []) (rest := []) ⟨hx, hb, hml, hown, hts⟩ (c_G_empty l dC dI qg ao ai an ko fo ki fi kn fn_ s.heap.size) (⟨va_cnB 0 hts (gd_167) rfl rfl rfl (hN _ nw_164) (hts _ tw_56) (by decide +kernel) ⟨Nat.le_of_ble_eq_true rfl, Nat.le_of_ble_eq_true rfl⟩, hts _ tw_166, hts _ tw_0⟩) ⟨cPre_blind, va_recv hKc hPc (ci := 0) (q0 := 0) rfl rfl, cPre_pre hPc hKc hDc hN⟩ rfl rfl hl.1 rfl (lv_room (Nat.le_of_ble_eq_true rfl)) d_p1_2_12 ⟨Nat.le_of_ble_eq_true rfl, Nat.le_of_ble_eq_true rfl⟩) hS (fun q _ h => hFc q h) hFc (fun u t H1 locs ht hvm hw hB hz1 hk1 hS => ?_)
  obtain ⟨hP1, hK1, hD1⟩ := hB
  rw [ht] at hP1
  obtain ⟨hP, hD⟩ := va_join (wr := [(qx, .inr (4, [.ref qg, .ref qr, .ref qk, .ref ql]))]) (w1 := []) hP hD [1, 2, 3, 4] [0] rfl rfl (by decide) (by decide) hk1 hFc hP1 hD1
  generalize H1 = H at hP hS ⊢
  have hP : va_P (dC, dI) classes [(qx, .inr (4, [.ref qg, .ref qr, .ref qk, .ref ql]))] H := hP
  have hD : va_D A [(qx, .inr (4, [.ref qg, .ref qr, .ref qk, .ref ql]))] := hD
  refine lv_iload_n hx hb d_p1_2_15 rfl (lv_at hl 0 rfl) ?_
  have hP9 := hP.sub (ws' := []) [] rfl
  have hD9 := hD.sub (ws' := []) [] (by decide) rfl
  have hK9 := hK.sub (tys' := []) [] rfl
  exact W.iret (v := 0) hx hb hr (fun t ht hW => ⟨⟨0, (), rfl, rfl, cEnd_mk hP9 hK9 hD9 ht hW⟩, hS.F ht⟩) hS.2.2 d_p1_2_16

set_option maxHeartbeats 4000000 in
set_option maxRecDepth 100000 in
theorem c_X_node (l : Launch) (dC : Nat → ClassId) (dI : Nat → Nat → Nat) (qx : Nat) (qg : Nat) (qr : Nat) (qk : Nat) (ql : Nat) (ao : Nat) (ai : Nat) (an : Nat) (sz : Nat) : Met l ({ cls := "StrongParts", name := "node", desc := "()I" } : Jvm.MethodName) (ww ({ cls := "StrongParts", name := "node", desc := "()I" } : Jvm.MethodName) prog_1_method_3_code 1 (some .int)) ({ frames := 0, cells := 0, slots := 0, locals := 0 }) (va_Pc [.ref qx] (cPre (dC, dI) [(qx, .inr (4, [.ref qg, .ref qr, .ref qk, .ref ql])), (qg, .inr (0, [.ref ao, .ref ai, .ref an, .int 0, .int 0]))] [] sz)) (va_Qi (fun (r : Int32) (_ : Unit) => r = 0) (cEnd (dC, dI) [] [] (va_A [(qx, .inr (4, [.ref qg, .ref qr, .ref qk, .ref ql])), (qg, .inr (0, [.ref ao, .ref ai, .ref an, .int 0, .int 0]))] sz)) (va_A [(qx, .inr (4, [.ref qg, .ref qr, .ref qk, .ref ql])), (qg, .inr (0, [.ref ao, .ref ai, .ref an, .int 0, .int 0]))] sz)) 0 0 (va_A [(qx, .inr (4, [.ref qg, .ref qr, .ref qk, .ref ql])), (qg, .inr (0, [.ref ao, .ref ai, .ref an, .int 0, .int 0]))] sz) := by
  refine Met.ofW (cc := prog_1_method_3_code) (maxL := 1) (ret := (some .int)) (by decide) rfl ?_
  intro p e s m args below meth c s₁ B hml hv
  obtain ⟨rfl, hsz, hP, hK, hD0, hN⟩ := hv
  have hx := B.exec
  have hb := B.bytes
  have hr := B.returns
  have hts := ww_hts (atoms_spec (ws := ww ({ cls := "StrongParts", name := "node", desc := "()I" } : Jvm.MethodName) prog_1_method_3_code 1 (some .int)) B.pre)
  have hown : s.vm.findClass "StrongParts" = some m.cls := findClass_of_methodNamed B.named
  have hlocks := B.notSynchronized
  subst hsz
  have hD := hD0.self (sz := s.heap.size)
  generalize hAe : va_A [(qx, .inr (4, [.ref qg, .ref qr, .ref qk, .ref ql])), (qg, .inr (0, [.ref ao, .ref ai, .ref an, .int 0, .int 0]))] s.heap.size = A at hD ⊢
  have hA : ∀ q : Nat, s.heap.size ≤ q → A q := fun q h => by rw [← hAe]; exact Or.inr h
  have hS : va_S A s.heap s.heap [] := va_S.rf
  have hP : va_P (dC, dI) classes [(qx, .inr (4, [.ref qg, .ref qr, .ref qk, .ref ql])), (qg, .inr (0, [.ref ao, .ref ai, .ref an, .int 0, .int 0]))] s.heap := hP
  have hl := lv_entry ([.ref qx]) (n := 1) (Nat.le_of_ble_eq_true rfl)
  rw [lg_entry_eq]
  generalize (lg_sl ([.ref qx]) ++ List.replicate (1 - (lg_sl ([.ref qx])).length) Slot.unset).toArray = ls at hl ⊢
  have hl : lv_has ls 1 [(0, .ref qx)] := hl
  refine lv_aload_n hx hb d_p1_3_0 rfl (lv_at hl 0 rfl) ?_
  refine va_get (D := (dC, dI)) (ci := 4) (v := .ref qg) (C := "StrongParts") (T := T_4) (N := 4) hx hb hts in_4 hown hK hP 0 rfl rfl 0 (by decide) (hts _ tw_147) (fun _ h9 => h9) rfl d_p1_3_1 ?_
  refine va_getN (D := (dC, dI)) (ci := 0) (v := .int 0) (C := "StrongParts$Graph") (T := T_0) (N := 5) hx hb hts in_0 hown hK hP 1 rfl rfl 3 (by decide) (va_Nw.use rfl (hN _ nw_85)) (fun _ h9 => h9) rfl d_p1_3_4 ?_
  refine lv_bipush (v := 15) hx hb d_p1_3_7 (by decide) ?_
  refine lv_icmp_lt (tgt := 15) hx hb d_p1_3_9 (by decide) (fun _ => ?_) (fun c => absurd (by decide) c)
  refine lv_aload_n hx hb d_p1_3_15 rfl (lv_at hl 0 rfl) ?_
  refine va_get (D := (dC, dI)) (ci := 4) (v := .ref qg) (C := "StrongParts") (T := T_4) (N := 4) hx hb hts in_4 hown hK hP 0 rfl rfl 0 (by decide) (hts _ tw_147) (fun _ h9 => h9) rfl d_p1_3_16 ?_
  refine lv_dup hx hb d_p1_3_19 rfl ?_
  refine va_getN (D := (dC, dI)) (ci := 0) (v := .int 0) (C := "StrongParts$Graph") (T := T_0) (N := 5) hx hb hts in_0 hown hK hP 1 rfl rfl 3 (by decide) (va_Nw.use rfl (hN _ nw_85)) (fun _ h9 => h9) rfl d_p1_3_20 ?_
  refine lv_iconst (v := 1) hx hb d_p1_3_23 (by decide) ?_
  refine lv_iadd hx hb d_p1_3_24 ?_
  refine lv_topi (fun z_1 ez_1 => ?_)
  obtain rfl : z_1 = (1 : Int32) := ez_1.trans (by decide)
  refine va_putN (D := (dC, dI)) (ci := 0) (v := .int 1) (ty := .int) (C := "StrongParts$Graph") (T := T_0) (N := 5) hx hb hts in_0 t_0 t_0_ok n_0 hown hK hP hD hS 1 rfl rfl 3 (by decide) (va_Nw.use rfl (hN _ nw_85)) (fun _ h9 => h9) rfl (by decide +kernel) rfl rfl (Nat.le_of_ble_eq_true rfl) d_p1_3_25 (fun H locs hP hD hS => ?_)
  have hP : va_P (dC, dI) classes [(qx, .inr (4, [.ref qg, .ref qr, .ref qk, .ref ql])), (qg, .inr (0, [.ref ao, .ref ai, .ref an, .int 1, .int 0]))] H := hP
  have hD : va_D A [(qx, .inr (4, [.ref qg, .ref qr, .ref qk, .ref ql])), (qg, .inr (0, [.ref ao, .ref ai, .ref an, .int 1, .int 0]))] := hD
  refine lv_aload_n hx hb d_p1_3_28 rfl (lv_at hl 0 rfl) ?_
  refine va_get (D := (dC, dI)) (ci := 4) (v := .ref qg) (C := "StrongParts") (T := T_4) (N := 4) hx hb hts in_4 hown hK hP 0 rfl rfl 0 (by decide) (hts _ tw_147) (fun _ h9 => h9) rfl d_p1_3_29 ?_
  refine va_getN (D := (dC, dI)) (ci := 0) (v := .int 1) (C := "StrongParts$Graph") (T := T_0) (N := 5) hx hb hts in_0 hown hK hP 1 rfl rfl 3 (by decide) (va_Nw.use rfl (hN _ nw_85)) (fun _ h9 => h9) rfl d_p1_3_32 ?_
  refine lv_iconst (v := 1) hx hb d_p1_3_35 (by decide) ?_
  refine lv_isub hx hb d_p1_3_36 ?_
  refine lv_topi (fun z_2 ez_2 => ?_)
  obtain rfl : z_2 = (0 : Int32) := ez_2.trans (by decide)
  have hP9 := hP.sub (ws' := []) [] rfl
  have hD9 := hD.sub (ws' := []) [] (by decide) rfl
  have hK9 := hK.sub (tys' := []) [] rfl
  exact W.iret (v := 0) hx hb hr (fun t ht hW => ⟨⟨0, (), rfl, rfl, cEnd_mk hP9 hK9 hD9 ht hW⟩, hS.F ht⟩) hS.2.2 d_p1_3_37

set_option maxHeartbeats 4000000 in
set_option maxRecDepth 100000 in
theorem c_X_arc (l : Launch) (dC : Nat → ClassId) (dI : Nat → Nat → Nat) (qx : Nat) (qg : Nat) (qr : Nat) (qk : Nat) (ql : Nat) (ao : Nat) (ai : Nat) (an : Nat) (p0 : Int32) (p1 : Int32) (sz : Nat) : Met l ({ cls := "StrongParts", name := "arc", desc := "(II)I" } : Jvm.MethodName) (ww ({ cls := "StrongParts", name := "arc", desc := "(II)I" } : Jvm.MethodName) prog_1_method_4_code 3 (some .int)) ({ frames := 2, cells := 0, slots := 0, locals := 43 }) (va_Pc [.ref qx, .int p0, .int p1] (cPre (dC, dI) [(qx, .inr (4, [.ref qg, .ref qr, .ref qk, .ref ql])), (qg, .inr (0, [.ref ao, .ref ai, .ref an, .int 0, .int 0]))] [] sz)) (va_Qi (fun (r : Int32) (_ : Unit) => r = (-2)) (cEnd (dC, dI) [] [] (va_A [(qx, .inr (4, [.ref qg, .ref qr, .ref qk, .ref ql])), (qg, .inr (0, [.ref ao, .ref ai, .ref an, .int 0, .int 0]))] sz)) (va_A [(qx, .inr (4, [.ref qg, .ref qr, .ref qk, .ref ql])), (qg, .inr (0, [.ref ao, .ref ai, .ref an, .int 0, .int 0]))] sz)) 0 0 (va_A [(qx, .inr (4, [.ref qg, .ref qr, .ref qk, .ref ql])), (qg, .inr (0, [.ref ao, .ref ai, .ref an, .int 0, .int 0]))] sz) := by
  refine Met.ofW (cc := prog_1_method_4_code) (maxL := 3) (ret := (some .int)) (by decide) rfl ?_
  intro p e s m args below meth c s₁ B hml hv
  obtain ⟨rfl, hsz, hP, hK, hD0, hN⟩ := hv
  have hx := B.exec
  have hb := B.bytes
  have hr := B.returns
  have hts := ww_hts (atoms_spec (ws := ww ({ cls := "StrongParts", name := "arc", desc := "(II)I" } : Jvm.MethodName) prog_1_method_4_code 3 (some .int)) B.pre)
  have hown : s.vm.findClass "StrongParts" = some m.cls := findClass_of_methodNamed B.named
  have hlocks := B.notSynchronized
  subst hsz
  have hD := hD0.self (sz := s.heap.size)
  generalize hAe : va_A [(qx, .inr (4, [.ref qg, .ref qr, .ref qk, .ref ql])), (qg, .inr (0, [.ref ao, .ref ai, .ref an, .int 0, .int 0]))] s.heap.size = A at hD ⊢
  have hA : ∀ q : Nat, s.heap.size ≤ q → A q := fun q h => by rw [← hAe]; exact Or.inr h
  have hS : va_S A s.heap s.heap [] := va_S.rf
  have hP : va_P (dC, dI) classes [(qx, .inr (4, [.ref qg, .ref qr, .ref qk, .ref ql])), (qg, .inr (0, [.ref ao, .ref ai, .ref an, .int 0, .int 0]))] s.heap := hP
  have hl := lv_entry ([.ref qx, .int p0, .int p1]) (n := 3) (Nat.le_of_ble_eq_true rfl)
  rw [lg_entry_eq]
  generalize (lg_sl ([.ref qx, .int p0, .int p1]) ++ List.replicate (3 - (lg_sl ([.ref qx, .int p0, .int p1])).length) Slot.unset).toArray = ls at hl ⊢
  have hl : lv_has ls 3 [(0, .ref qx), (1, .int p0), (2, .int p1)] := hl
  refine lv_aload_n hx hb d_p1_4_0 rfl (lv_at hl 0 rfl) ?_
  refine lv_iload_n hx hb d_p1_4_1 rfl (lv_at hl 1 rfl) ?_
  refine lv_iload_n hx hb d_p1_4_2 rfl (lv_at hl 2 rfl) ?_
  have hPc := hP.sub (ws' := [(qx, .inr (4, [.ref qg, .ref qr, .ref qk, .ref ql])), (qg, .inr (0, [.ref ao, .ref ai, .ref an, .int 0, .int 0]))]) [0, 1] rfl
  have hDc := hD.sub (ws' := [(qx, .inr (4, [.ref qg, .ref qr, .ref qk, .ref ql])), (qg, .inr (0, [.ref ao, .ref ai, .ref an, .int 0, .int 0]))]) [0, 1] (by decide) rfl
  have hKc := hK.sub (tys' := []) [] rfl
  have hFc := va_free (wc := [(qx, .inr (4, [.ref qg, .ref qr, .ref qk, .ref ql])), (qg, .inr (0, [.ref ao, .ref ai, .ref an, .int 0, .int 0]))]) hD hS hA [0, 1] rfl
  refine va_calli (va_runV (As := [.int p0, .int p1]) (rest := []) ⟨hx, hb, hml, hown, hts⟩ (c_X_arePair l dC dI qx qg qr qk ql ao ai an p0 p1 s.heap.size) (cwV 2 hts (gV gd_182 tw_179 tw_181 tw_1 tw_55) rfl rfl rfl (by decide +kernel) ⟨Nat.le_of_ble_eq_true rfl, Nat.le_of_ble_eq_true rfl⟩) ⟨cPre_blind, va_recv hKc hPc (ci := 4) (q0 := 0) rfl rfl, cPre_pre hPc hKc hDc hN⟩ rfl rfl hl.1 rfl (lv_room (Nat.le_of_ble_eq_true rfl)) d_p1_4_3 ⟨Nat.le_of_ble_eq_true rfl, Nat.le_of_ble_eq_true rfl⟩) hS (fun q _ h => hFc q h) hFc (fun r_1 u t H1 locs ht hvm hw hB hz1 hk1 hS => ?_)
  obtain ⟨hP1, hK1, hD1⟩ := hB
  rw [ht] at hP1
  obtain ⟨hP, hD⟩ := va_join (wr := []) (w1 := [(qx, .inr (4, [.ref qg, .ref qr, .ref qk, .ref ql])), (qg, .inr (0, [.ref ao, .ref ai, .ref an, .int 0, .int 0]))]) hP hD [0, 1] [] rfl rfl (by decide) (by decide) hk1 hFc hP1 hD1
  generalize H1 = H at hP hS ⊢
  have hP : va_P (dC, dI) classes [(qx, .inr (4, [.ref qg, .ref qr, .ref qk, .ref ql])), (qg, .inr (0, [.ref ao, .ref ai, .ref an, .int 0, .int 0]))] H := hP
  have hD : va_D A [(qx, .inr (4, [.ref qg, .ref qr, .ref qk, .ref ql])), (qg, .inr (0, [.ref ao, .ref ai, .ref an, .int 0, .int 0]))] := hD
  obtain rfl : r_1 = (0 : Int32) := hw
  refine lv_if_eq (tgt := 14) hx hb d_p1_4_6 (by decide) (fun _ => ?_) (fun c => absurd (by decide) c)
  refine lv_bipush (v := (-2)) hx hb d_p1_4_14 (by decide) ?_
  have hP9 := hP.sub (ws' := []) [] rfl
  have hD9 := hD.sub (ws' := []) [] (by decide) rfl
  have hK9 := hK.sub (tys' := []) [] rfl
  exact W.iret (v := (-2)) hx hb hr (fun t ht hW => ⟨⟨(-2), (), rfl, rfl, cEnd_mk hP9 hK9 hD9 ht hW⟩, hS.F ht⟩) hS.2.2 d_p1_4_16

set_option maxHeartbeats 4000000 in
set_option maxRecDepth 100000 in
theorem c_X_cut (l : Launch) (dC : Nat → ClassId) (dI : Nat → Nat → Nat) (qx : Nat) (qg : Nat) (qr : Nat) (qk : Nat) (ql : Nat) (ao : Nat) (ai : Nat) (an : Nat) (p0 : Int32) (p1 : Int32) (sz : Nat) : Met l ({ cls := "StrongParts", name := "cut", desc := "(II)I" } : Jvm.MethodName) (ww ({ cls := "StrongParts", name := "cut", desc := "(II)I" } : Jvm.MethodName) prog_1_method_5_code 3 (some .int)) ({ frames := 2, cells := 0, slots := 0, locals := 43 }) (va_Pc [.ref qx, .int p0, .int p1] (cPre (dC, dI) [(qx, .inr (4, [.ref qg, .ref qr, .ref qk, .ref ql])), (qg, .inr (0, [.ref ao, .ref ai, .ref an, .int 0, .int 0]))] [] sz)) (va_Qi (fun (r : Int32) (_ : Unit) => r = (-2)) (cEnd (dC, dI) [] [] (va_A [(qx, .inr (4, [.ref qg, .ref qr, .ref qk, .ref ql])), (qg, .inr (0, [.ref ao, .ref ai, .ref an, .int 0, .int 0]))] sz)) (va_A [(qx, .inr (4, [.ref qg, .ref qr, .ref qk, .ref ql])), (qg, .inr (0, [.ref ao, .ref ai, .ref an, .int 0, .int 0]))] sz)) 0 0 (va_A [(qx, .inr (4, [.ref qg, .ref qr, .ref qk, .ref ql])), (qg, .inr (0, [.ref ao, .ref ai, .ref an, .int 0, .int 0]))] sz) := by
  refine Met.ofW (cc := prog_1_method_5_code) (maxL := 3) (ret := (some .int)) (by decide) rfl ?_
  intro p e s m args below meth c s₁ B hml hv
  obtain ⟨rfl, hsz, hP, hK, hD0, hN⟩ := hv
  have hx := B.exec
  have hb := B.bytes
  have hr := B.returns
  have hts := ww_hts (atoms_spec (ws := ww ({ cls := "StrongParts", name := "cut", desc := "(II)I" } : Jvm.MethodName) prog_1_method_5_code 3 (some .int)) B.pre)
  have hown : s.vm.findClass "StrongParts" = some m.cls := findClass_of_methodNamed B.named
  have hlocks := B.notSynchronized
  subst hsz
  have hD := hD0.self (sz := s.heap.size)
  generalize hAe : va_A [(qx, .inr (4, [.ref qg, .ref qr, .ref qk, .ref ql])), (qg, .inr (0, [.ref ao, .ref ai, .ref an, .int 0, .int 0]))] s.heap.size = A at hD ⊢
  have hA : ∀ q : Nat, s.heap.size ≤ q → A q := fun q h => by rw [← hAe]; exact Or.inr h
  have hS : va_S A s.heap s.heap [] := va_S.rf
  have hP : va_P (dC, dI) classes [(qx, .inr (4, [.ref qg, .ref qr, .ref qk, .ref ql])), (qg, .inr (0, [.ref ao, .ref ai, .ref an, .int 0, .int 0]))] s.heap := hP
  have hl := lv_entry ([.ref qx, .int p0, .int p1]) (n := 3) (Nat.le_of_ble_eq_true rfl)
  rw [lg_entry_eq]
  generalize (lg_sl ([.ref qx, .int p0, .int p1]) ++ List.replicate (3 - (lg_sl ([.ref qx, .int p0, .int p1])).length) Slot.unset).toArray = ls at hl ⊢
  have hl : lv_has ls 3 [(0, .ref qx), (1, .int p0), (2, .int p1)] := hl
  refine lv_aload_n hx hb d_p1_5_0 rfl (lv_at hl 0 rfl) ?_
  refine lv_iload_n hx hb d_p1_5_1 rfl (lv_at hl 1 rfl) ?_
  refine lv_iload_n hx hb d_p1_5_2 rfl (lv_at hl 2 rfl) ?_
  have hPc := hP.sub (ws' := [(qx, .inr (4, [.ref qg, .ref qr, .ref qk, .ref ql])), (qg, .inr (0, [.ref ao, .ref ai, .ref an, .int 0, .int 0]))]) [0, 1] rfl
  have hDc := hD.sub (ws' := [(qx, .inr (4, [.ref qg, .ref qr, .ref qk, .ref ql])), (qg, .inr (0, [.ref ao, .ref ai, .ref an, .int 0, .int 0]))]) [0, 1] (by decide) rfl
  have hKc := hK.sub (tys' := []) [] rfl
  have hFc := va_free (wc := [(qx, .inr (4, [.ref qg, .ref qr, .ref qk, .ref ql])), (qg, .inr (0, [.ref ao, .ref ai, .ref an, .int 0, .int 0]))]) hD hS hA [0, 1] rfl
  refine va_calli (va_runV (As := [.int p0, .int p1]) (rest := []) ⟨hx, hb, hml, hown, hts⟩ (c_X_arePair l dC dI qx qg qr qk ql ao ai an p0 p1 s.heap.size) (cwV 2 hts (gV gd_182 tw_179 tw_181 tw_1 tw_55) rfl rfl rfl (by decide +kernel) ⟨Nat.le_of_ble_eq_true rfl, Nat.le_of_ble_eq_true rfl⟩) ⟨cPre_blind, va_recv hKc hPc (ci := 4) (q0 := 0) rfl rfl, cPre_pre hPc hKc hDc hN⟩ rfl rfl hl.1 rfl (lv_room (Nat.le_of_ble_eq_true rfl)) d_p1_5_3 ⟨Nat.le_of_ble_eq_true rfl, Nat.le_of_ble_eq_true rfl⟩) hS (fun q _ h => hFc q h) hFc (fun r_1 u t H1 locs ht hvm hw hB hz1 hk1 hS => ?_)
  obtain ⟨hP1, hK1, hD1⟩ := hB
  rw [ht] at hP1
  obtain ⟨hP, hD⟩ := va_join (wr := []) (w1 := [(qx, .inr (4, [.ref qg, .ref qr, .ref qk, .ref ql])), (qg, .inr (0, [.ref ao, .ref ai, .ref an, .int 0, .int 0]))]) hP hD [0, 1] [] rfl rfl (by decide) (by decide) hk1 hFc hP1 hD1
  generalize H1 = H at hP hS ⊢
  have hP : va_P (dC, dI) classes [(qx, .inr (4, [.ref qg, .ref qr, .ref qk, .ref ql])), (qg, .inr (0, [.ref ao, .ref ai, .ref an, .int 0, .int 0]))] H := hP
  have hD : va_D A [(qx, .inr (4, [.ref qg, .ref qr, .ref qk, .ref ql])), (qg, .inr (0, [.ref ao, .ref ai, .ref an, .int 0, .int 0]))] := hD
  obtain rfl : r_1 = (0 : Int32) := hw
  refine lv_if_eq (tgt := 14) hx hb d_p1_5_6 (by decide) (fun _ => ?_) (fun c => absurd (by decide) c)
  refine lv_bipush (v := (-2)) hx hb d_p1_5_14 (by decide) ?_
  have hP9 := hP.sub (ws' := []) [] rfl
  have hD9 := hD.sub (ws' := []) [] (by decide) rfl
  have hK9 := hK.sub (tys' := []) [] rfl
  exact W.iret (v := (-2)) hx hb hr (fun t ht hW => ⟨⟨(-2), (), rfl, rfl, cEnd_mk hP9 hK9 hD9 ht hW⟩, hS.F ht⟩) hS.2.2 d_p1_5_16

set_option maxHeartbeats 4000000 in
set_option maxRecDepth 100000 in
theorem c_X_steps (l : Launch) (dC : Nat → ClassId) (dI : Nat → Nat → Nat) (qx : Nat) (qg : Nat) (qr : Nat) (qk : Nat) (ql : Nat) (ao : Nat) (ai : Nat) (an : Nat) (p0 : Int32) (p1 : Int32) (sz : Nat) : Met l ({ cls := "StrongParts", name := "steps", desc := "(II)I" } : Jvm.MethodName) (ww ({ cls := "StrongParts", name := "steps", desc := "(II)I" } : Jvm.MethodName) prog_1_method_12_code 3 (some .int)) ({ frames := 2, cells := 0, slots := 0, locals := 43 }) (va_Pc [.ref qx, .int p0, .int p1] (cPre (dC, dI) [(qx, .inr (4, [.ref qg, .ref qr, .ref qk, .ref ql])), (qg, .inr (0, [.ref ao, .ref ai, .ref an, .int 0, .int 0]))] [] sz)) (va_Qi (fun (r : Int32) (_ : Unit) => r = (-2)) (cEnd (dC, dI) [] [] (va_A [(qx, .inr (4, [.ref qg, .ref qr, .ref qk, .ref ql])), (qg, .inr (0, [.ref ao, .ref ai, .ref an, .int 0, .int 0]))] sz)) (va_A [(qx, .inr (4, [.ref qg, .ref qr, .ref qk, .ref ql])), (qg, .inr (0, [.ref ao, .ref ai, .ref an, .int 0, .int 0]))] sz)) 0 0 (va_A [(qx, .inr (4, [.ref qg, .ref qr, .ref qk, .ref ql])), (qg, .inr (0, [.ref ao, .ref ai, .ref an, .int 0, .int 0]))] sz) := by
  refine Met.ofW (cc := prog_1_method_12_code) (maxL := 3) (ret := (some .int)) (by decide) rfl ?_
  intro p e s m args below meth c s₁ B hml hv
  obtain ⟨rfl, hsz, hP, hK, hD0, hN⟩ := hv
  have hx := B.exec
  have hb := B.bytes
  have hr := B.returns
  have hts := ww_hts (atoms_spec (ws := ww ({ cls := "StrongParts", name := "steps", desc := "(II)I" } : Jvm.MethodName) prog_1_method_12_code 3 (some .int)) B.pre)
  have hown : s.vm.findClass "StrongParts" = some m.cls := findClass_of_methodNamed B.named
  have hlocks := B.notSynchronized
  subst hsz
  have hD := hD0.self (sz := s.heap.size)
  generalize hAe : va_A [(qx, .inr (4, [.ref qg, .ref qr, .ref qk, .ref ql])), (qg, .inr (0, [.ref ao, .ref ai, .ref an, .int 0, .int 0]))] s.heap.size = A at hD ⊢
  have hA : ∀ q : Nat, s.heap.size ≤ q → A q := fun q h => by rw [← hAe]; exact Or.inr h
  have hS : va_S A s.heap s.heap [] := va_S.rf
  have hP : va_P (dC, dI) classes [(qx, .inr (4, [.ref qg, .ref qr, .ref qk, .ref ql])), (qg, .inr (0, [.ref ao, .ref ai, .ref an, .int 0, .int 0]))] s.heap := hP
  have hl := lv_entry ([.ref qx, .int p0, .int p1]) (n := 3) (Nat.le_of_ble_eq_true rfl)
  rw [lg_entry_eq]
  generalize (lg_sl ([.ref qx, .int p0, .int p1]) ++ List.replicate (3 - (lg_sl ([.ref qx, .int p0, .int p1])).length) Slot.unset).toArray = ls at hl ⊢
  have hl : lv_has ls 3 [(0, .ref qx), (1, .int p0), (2, .int p1)] := hl
  refine lv_aload_n hx hb d_p1_12_0 rfl (lv_at hl 0 rfl) ?_
  refine lv_iload_n hx hb d_p1_12_1 rfl (lv_at hl 1 rfl) ?_
  refine lv_iload_n hx hb d_p1_12_2 rfl (lv_at hl 2 rfl) ?_
  have hPc := hP.sub (ws' := [(qx, .inr (4, [.ref qg, .ref qr, .ref qk, .ref ql])), (qg, .inr (0, [.ref ao, .ref ai, .ref an, .int 0, .int 0]))]) [0, 1] rfl
  have hDc := hD.sub (ws' := [(qx, .inr (4, [.ref qg, .ref qr, .ref qk, .ref ql])), (qg, .inr (0, [.ref ao, .ref ai, .ref an, .int 0, .int 0]))]) [0, 1] (by decide) rfl
  have hKc := hK.sub (tys' := []) [] rfl
  have hFc := va_free (wc := [(qx, .inr (4, [.ref qg, .ref qr, .ref qk, .ref ql])), (qg, .inr (0, [.ref ao, .ref ai, .ref an, .int 0, .int 0]))]) hD hS hA [0, 1] rfl
  refine va_calli (va_runV (As := [.int p0, .int p1]) (rest := []) ⟨hx, hb, hml, hown, hts⟩ (c_X_arePair l dC dI qx qg qr qk ql ao ai an p0 p1 s.heap.size) (cwV 2 hts (gV gd_182 tw_179 tw_181 tw_1 tw_55) rfl rfl rfl (by decide +kernel) ⟨Nat.le_of_ble_eq_true rfl, Nat.le_of_ble_eq_true rfl⟩) ⟨cPre_blind, va_recv hKc hPc (ci := 4) (q0 := 0) rfl rfl, cPre_pre hPc hKc hDc hN⟩ rfl rfl hl.1 rfl (lv_room (Nat.le_of_ble_eq_true rfl)) d_p1_12_3 ⟨Nat.le_of_ble_eq_true rfl, Nat.le_of_ble_eq_true rfl⟩) hS (fun q _ h => hFc q h) hFc (fun r_1 u t H1 locs ht hvm hw hB hz1 hk1 hS => ?_)
  obtain ⟨hP1, hK1, hD1⟩ := hB
  rw [ht] at hP1
  obtain ⟨hP, hD⟩ := va_join (wr := []) (w1 := [(qx, .inr (4, [.ref qg, .ref qr, .ref qk, .ref ql])), (qg, .inr (0, [.ref ao, .ref ai, .ref an, .int 0, .int 0]))]) hP hD [0, 1] [] rfl rfl (by decide) (by decide) hk1 hFc hP1 hD1
  generalize H1 = H at hP hS ⊢
  have hP : va_P (dC, dI) classes [(qx, .inr (4, [.ref qg, .ref qr, .ref qk, .ref ql])), (qg, .inr (0, [.ref ao, .ref ai, .ref an, .int 0, .int 0]))] H := hP
  have hD : va_D A [(qx, .inr (4, [.ref qg, .ref qr, .ref qk, .ref ql])), (qg, .inr (0, [.ref ao, .ref ai, .ref an, .int 0, .int 0]))] := hD
  obtain rfl : r_1 = (0 : Int32) := hw
  refine lv_if_ne (tgt := 12) hx hb d_p1_12_6 (by decide) (fun c => absurd c (by decide)) (fun _ => ?_)
  refine lv_bipush (v := (-2)) hx hb d_p1_12_9 (by decide) ?_
  have hP9 := hP.sub (ws' := []) [] rfl
  have hD9 := hD.sub (ws' := []) [] (by decide) rfl
  have hK9 := hK.sub (tys' := []) [] rfl
  exact W.iret (v := (-2)) hx hb hr (fun t ht hW => ⟨⟨(-2), (), rfl, rfl, cEnd_mk hP9 hK9 hD9 ht hW⟩, hS.F ht⟩) hS.2.2 d_p1_12_11

set_option maxHeartbeats 4000000 in
set_option maxRecDepth 100000 in
theorem c_X_gates (l : Launch) (dC : Nat → ClassId) (dI : Nat → Nat → Nat) (qx : Nat) (qg : Nat) (qr : Nat) (qk : Nat) (ql : Nat) (ao : Nat) (ai : Nat) (an : Nat) (p0 : Int32) (p1 : Int32) (sz : Nat) : Met l ({ cls := "StrongParts", name := "gates", desc := "(II)I" } : Jvm.MethodName) (ww ({ cls := "StrongParts", name := "gates", desc := "(II)I" } : Jvm.MethodName) prog_1_method_24_code 3 (some .int)) ({ frames := 2, cells := 0, slots := 0, locals := 43 }) (va_Pc [.ref qx, .int p0, .int p1] (cPre (dC, dI) [(qx, .inr (4, [.ref qg, .ref qr, .ref qk, .ref ql])), (qg, .inr (0, [.ref ao, .ref ai, .ref an, .int 0, .int 0]))] [] sz)) (va_Qi (fun (r : Int32) (_ : Unit) => r = (-2)) (cEnd (dC, dI) [] [] (va_A [(qx, .inr (4, [.ref qg, .ref qr, .ref qk, .ref ql])), (qg, .inr (0, [.ref ao, .ref ai, .ref an, .int 0, .int 0]))] sz)) (va_A [(qx, .inr (4, [.ref qg, .ref qr, .ref qk, .ref ql])), (qg, .inr (0, [.ref ao, .ref ai, .ref an, .int 0, .int 0]))] sz)) 0 0 (va_A [(qx, .inr (4, [.ref qg, .ref qr, .ref qk, .ref ql])), (qg, .inr (0, [.ref ao, .ref ai, .ref an, .int 0, .int 0]))] sz) := by
  refine Met.ofW (cc := prog_1_method_24_code) (maxL := 3) (ret := (some .int)) (by decide) rfl ?_
  intro p e s m args below meth c s₁ B hml hv
  obtain ⟨rfl, hsz, hP, hK, hD0, hN⟩ := hv
  have hx := B.exec
  have hb := B.bytes
  have hr := B.returns
  have hts := ww_hts (atoms_spec (ws := ww ({ cls := "StrongParts", name := "gates", desc := "(II)I" } : Jvm.MethodName) prog_1_method_24_code 3 (some .int)) B.pre)
  have hown : s.vm.findClass "StrongParts" = some m.cls := findClass_of_methodNamed B.named
  have hlocks := B.notSynchronized
  subst hsz
  have hD := hD0.self (sz := s.heap.size)
  generalize hAe : va_A [(qx, .inr (4, [.ref qg, .ref qr, .ref qk, .ref ql])), (qg, .inr (0, [.ref ao, .ref ai, .ref an, .int 0, .int 0]))] s.heap.size = A at hD ⊢
  have hA : ∀ q : Nat, s.heap.size ≤ q → A q := fun q h => by rw [← hAe]; exact Or.inr h
  have hS : va_S A s.heap s.heap [] := va_S.rf
  have hP : va_P (dC, dI) classes [(qx, .inr (4, [.ref qg, .ref qr, .ref qk, .ref ql])), (qg, .inr (0, [.ref ao, .ref ai, .ref an, .int 0, .int 0]))] s.heap := hP
  have hl := lv_entry ([.ref qx, .int p0, .int p1]) (n := 3) (Nat.le_of_ble_eq_true rfl)
  rw [lg_entry_eq]
  generalize (lg_sl ([.ref qx, .int p0, .int p1]) ++ List.replicate (3 - (lg_sl ([.ref qx, .int p0, .int p1])).length) Slot.unset).toArray = ls at hl ⊢
  have hl : lv_has ls 3 [(0, .ref qx), (1, .int p0), (2, .int p1)] := hl
  refine lv_aload_n hx hb d_p1_24_0 rfl (lv_at hl 0 rfl) ?_
  refine lv_iload_n hx hb d_p1_24_1 rfl (lv_at hl 1 rfl) ?_
  refine lv_iload_n hx hb d_p1_24_2 rfl (lv_at hl 2 rfl) ?_
  have hPc := hP.sub (ws' := [(qx, .inr (4, [.ref qg, .ref qr, .ref qk, .ref ql])), (qg, .inr (0, [.ref ao, .ref ai, .ref an, .int 0, .int 0]))]) [0, 1] rfl
  have hDc := hD.sub (ws' := [(qx, .inr (4, [.ref qg, .ref qr, .ref qk, .ref ql])), (qg, .inr (0, [.ref ao, .ref ai, .ref an, .int 0, .int 0]))]) [0, 1] (by decide) rfl
  have hKc := hK.sub (tys' := []) [] rfl
  have hFc := va_free (wc := [(qx, .inr (4, [.ref qg, .ref qr, .ref qk, .ref ql])), (qg, .inr (0, [.ref ao, .ref ai, .ref an, .int 0, .int 0]))]) hD hS hA [0, 1] rfl
  refine va_calli (va_runV (As := [.int p0, .int p1]) (rest := []) ⟨hx, hb, hml, hown, hts⟩ (c_X_arePair l dC dI qx qg qr qk ql ao ai an p0 p1 s.heap.size) (cwV 2 hts (gV gd_182 tw_179 tw_181 tw_1 tw_55) rfl rfl rfl (by decide +kernel) ⟨Nat.le_of_ble_eq_true rfl, Nat.le_of_ble_eq_true rfl⟩) ⟨cPre_blind, va_recv hKc hPc (ci := 4) (q0 := 0) rfl rfl, cPre_pre hPc hKc hDc hN⟩ rfl rfl hl.1 rfl (lv_room (Nat.le_of_ble_eq_true rfl)) d_p1_24_3 ⟨Nat.le_of_ble_eq_true rfl, Nat.le_of_ble_eq_true rfl⟩) hS (fun q _ h => hFc q h) hFc (fun r_1 u t H1 locs ht hvm hw hB hz1 hk1 hS => ?_)
  obtain ⟨hP1, hK1, hD1⟩ := hB
  rw [ht] at hP1
  obtain ⟨hP, hD⟩ := va_join (wr := []) (w1 := [(qx, .inr (4, [.ref qg, .ref qr, .ref qk, .ref ql])), (qg, .inr (0, [.ref ao, .ref ai, .ref an, .int 0, .int 0]))]) hP hD [0, 1] [] rfl rfl (by decide) (by decide) hk1 hFc hP1 hD1
  generalize H1 = H at hP hS ⊢
  have hP : va_P (dC, dI) classes [(qx, .inr (4, [.ref qg, .ref qr, .ref qk, .ref ql])), (qg, .inr (0, [.ref ao, .ref ai, .ref an, .int 0, .int 0]))] H := hP
  have hD : va_D A [(qx, .inr (4, [.ref qg, .ref qr, .ref qk, .ref ql])), (qg, .inr (0, [.ref ao, .ref ai, .ref an, .int 0, .int 0]))] := hD
  obtain rfl : r_1 = (0 : Int32) := hw
  refine lv_if_ne (tgt := 12) hx hb d_p1_24_6 (by decide) (fun c => absurd c (by decide)) (fun _ => ?_)
  refine lv_bipush (v := (-2)) hx hb d_p1_24_9 (by decide) ?_
  have hP9 := hP.sub (ws' := []) [] rfl
  have hD9 := hD.sub (ws' := []) [] (by decide) rfl
  have hK9 := hK.sub (tys' := []) [] rfl
  exact W.iret (v := (-2)) hx hb hr (fun t ht hW => ⟨⟨(-2), (), rfl, rfl, cEnd_mk hP9 hK9 hD9 ht hW⟩, hS.F ht⟩) hS.2.2 d_p1_24_11

set_option maxHeartbeats 4000000 in
set_option maxRecDepth 100000 in
theorem c_X_gate (l : Launch) (dC : Nat → ClassId) (dI : Nat → Nat → Nat) (qx : Nat) (qg : Nat) (qr : Nat) (qk : Nat) (ql : Nat) (ao : Nat) (ai : Nat) (an : Nat) (p0 : Int32) (p1 : Int32) (sz : Nat) : Met l ({ cls := "StrongParts", name := "gate", desc := "(II)I" } : Jvm.MethodName) (ww ({ cls := "StrongParts", name := "gate", desc := "(II)I" } : Jvm.MethodName) prog_1_method_25_code 4 (some .int)) ({ frames := 2, cells := 0, slots := 0, locals := 43 }) (va_Pc [.ref qx, .int p0, .int p1] (cPre (dC, dI) [(qx, .inr (4, [.ref qg, .ref qr, .ref qk, .ref ql])), (qg, .inr (0, [.ref ao, .ref ai, .ref an, .int 0, .int 0]))] [] sz)) (va_Qi (fun (r : Int32) (_ : Unit) => r = (-2)) (cEnd (dC, dI) [] [] (va_A [(qx, .inr (4, [.ref qg, .ref qr, .ref qk, .ref ql])), (qg, .inr (0, [.ref ao, .ref ai, .ref an, .int 0, .int 0]))] sz)) (va_A [(qx, .inr (4, [.ref qg, .ref qr, .ref qk, .ref ql])), (qg, .inr (0, [.ref ao, .ref ai, .ref an, .int 0, .int 0]))] sz)) 0 0 (va_A [(qx, .inr (4, [.ref qg, .ref qr, .ref qk, .ref ql])), (qg, .inr (0, [.ref ao, .ref ai, .ref an, .int 0, .int 0]))] sz) := by
  refine Met.ofW (cc := prog_1_method_25_code) (maxL := 4) (ret := (some .int)) (by decide) rfl ?_
  intro p e s m args below meth c s₁ B hml hv
  obtain ⟨rfl, hsz, hP, hK, hD0, hN⟩ := hv
  have hx := B.exec
  have hb := B.bytes
  have hr := B.returns
  have hts := ww_hts (atoms_spec (ws := ww ({ cls := "StrongParts", name := "gate", desc := "(II)I" } : Jvm.MethodName) prog_1_method_25_code 4 (some .int)) B.pre)
  have hown : s.vm.findClass "StrongParts" = some m.cls := findClass_of_methodNamed B.named
  have hlocks := B.notSynchronized
  subst hsz
  have hD := hD0.self (sz := s.heap.size)
  generalize hAe : va_A [(qx, .inr (4, [.ref qg, .ref qr, .ref qk, .ref ql])), (qg, .inr (0, [.ref ao, .ref ai, .ref an, .int 0, .int 0]))] s.heap.size = A at hD ⊢
  have hA : ∀ q : Nat, s.heap.size ≤ q → A q := fun q h => by rw [← hAe]; exact Or.inr h
  have hS : va_S A s.heap s.heap [] := va_S.rf
  have hP : va_P (dC, dI) classes [(qx, .inr (4, [.ref qg, .ref qr, .ref qk, .ref ql])), (qg, .inr (0, [.ref ao, .ref ai, .ref an, .int 0, .int 0]))] s.heap := hP
  have hl := lv_entry ([.ref qx, .int p0, .int p1]) (n := 4) (Nat.le_of_ble_eq_true rfl)
  rw [lg_entry_eq]
  generalize (lg_sl ([.ref qx, .int p0, .int p1]) ++ List.replicate (4 - (lg_sl ([.ref qx, .int p0, .int p1])).length) Slot.unset).toArray = ls at hl ⊢
  have hl : lv_has ls 4 [(0, .ref qx), (1, .int p0), (2, .int p1)] := hl
  refine lv_aload_n hx hb d_p1_25_0 rfl (lv_at hl 0 rfl) ?_
  refine lv_iload_n hx hb d_p1_25_1 rfl (lv_at hl 1 rfl) ?_
  refine lv_iload_n hx hb d_p1_25_2 rfl (lv_at hl 2 rfl) ?_
  have hPc := hP.sub (ws' := [(qx, .inr (4, [.ref qg, .ref qr, .ref qk, .ref ql])), (qg, .inr (0, [.ref ao, .ref ai, .ref an, .int 0, .int 0]))]) [0, 1] rfl
  have hDc := hD.sub (ws' := [(qx, .inr (4, [.ref qg, .ref qr, .ref qk, .ref ql])), (qg, .inr (0, [.ref ao, .ref ai, .ref an, .int 0, .int 0]))]) [0, 1] (by decide) rfl
  have hKc := hK.sub (tys' := []) [] rfl
  have hFc := va_free (wc := [(qx, .inr (4, [.ref qg, .ref qr, .ref qk, .ref ql])), (qg, .inr (0, [.ref ao, .ref ai, .ref an, .int 0, .int 0]))]) hD hS hA [0, 1] rfl
  refine va_calli (va_runV (As := [.int p0, .int p1]) (rest := []) ⟨hx, hb, hml, hown, hts⟩ (c_X_arePair l dC dI qx qg qr qk ql ao ai an p0 p1 s.heap.size) (cwV 2 hts (gV gd_182 tw_179 tw_181 tw_1 tw_55) rfl rfl rfl (by decide +kernel) ⟨Nat.le_of_ble_eq_true rfl, Nat.le_of_ble_eq_true rfl⟩) ⟨cPre_blind, va_recv hKc hPc (ci := 4) (q0 := 0) rfl rfl, cPre_pre hPc hKc hDc hN⟩ rfl rfl hl.1 rfl (lv_room (Nat.le_of_ble_eq_true rfl)) d_p1_25_3 ⟨Nat.le_of_ble_eq_true rfl, Nat.le_of_ble_eq_true rfl⟩) hS (fun q _ h => hFc q h) hFc (fun r_1 u t H1 locs ht hvm hw hB hz1 hk1 hS => ?_)
  obtain ⟨hP1, hK1, hD1⟩ := hB
  rw [ht] at hP1
  obtain ⟨hP, hD⟩ := va_join (wr := []) (w1 := [(qx, .inr (4, [.ref qg, .ref qr, .ref qk, .ref ql])), (qg, .inr (0, [.ref ao, .ref ai, .ref an, .int 0, .int 0]))]) hP hD [0, 1] [] rfl rfl (by decide) (by decide) hk1 hFc hP1 hD1
  generalize H1 = H at hP hS ⊢
  have hP : va_P (dC, dI) classes [(qx, .inr (4, [.ref qg, .ref qr, .ref qk, .ref ql])), (qg, .inr (0, [.ref ao, .ref ai, .ref an, .int 0, .int 0]))] H := hP
  have hD : va_D A [(qx, .inr (4, [.ref qg, .ref qr, .ref qk, .ref ql])), (qg, .inr (0, [.ref ao, .ref ai, .ref an, .int 0, .int 0]))] := hD
  obtain rfl : r_1 = (0 : Int32) := hw
  refine lv_if_ne (tgt := 12) hx hb d_p1_25_6 (by decide) (fun c => absurd c (by decide)) (fun _ => ?_)
  refine lv_bipush (v := (-2)) hx hb d_p1_25_9 (by decide) ?_
  have hP9 := hP.sub (ws' := []) [] rfl
  have hD9 := hD.sub (ws' := []) [] (by decide) rfl
  have hK9 := hK.sub (tys' := []) [] rfl
  exact W.iret (v := (-2)) hx hb hr (fun t ht hW => ⟨⟨(-2), (), rfl, rfl, cEnd_mk hP9 hK9 hD9 ht hW⟩, hS.F ht⟩) hS.2.2 d_p1_25_11

set_option maxHeartbeats 4000000 in
set_option maxRecDepth 100000 in
theorem c_X_needed (l : Launch) (dC : Nat → ClassId) (dI : Nat → Nat → Nat) (qx : Nat) (qg : Nat) (qr : Nat) (qk : Nat) (ql : Nat) (ao : Nat) (ai : Nat) (an : Nat) (p0 : Int32) (p1 : Int32) (sz : Nat) : Met l ({ cls := "StrongParts", name := "needed", desc := "(II)I" } : Jvm.MethodName) (ww ({ cls := "StrongParts", name := "needed", desc := "(II)I" } : Jvm.MethodName) prog_1_method_26_code 3 (some .int)) ({ frames := 2, cells := 0, slots := 0, locals := 43 }) (va_Pc [.ref qx, .int p0, .int p1] (cPre (dC, dI) [(qx, .inr (4, [.ref qg, .ref qr, .ref qk, .ref ql])), (qg, .inr (0, [.ref ao, .ref ai, .ref an, .int 0, .int 0]))] [] sz)) (va_Qi (fun (r : Int32) (_ : Unit) => r = (-2)) (cEnd (dC, dI) [] [] (va_A [(qx, .inr (4, [.ref qg, .ref qr, .ref qk, .ref ql])), (qg, .inr (0, [.ref ao, .ref ai, .ref an, .int 0, .int 0]))] sz)) (va_A [(qx, .inr (4, [.ref qg, .ref qr, .ref qk, .ref ql])), (qg, .inr (0, [.ref ao, .ref ai, .ref an, .int 0, .int 0]))] sz)) 0 0 (va_A [(qx, .inr (4, [.ref qg, .ref qr, .ref qk, .ref ql])), (qg, .inr (0, [.ref ao, .ref ai, .ref an, .int 0, .int 0]))] sz) := by
  refine Met.ofW (cc := prog_1_method_26_code) (maxL := 3) (ret := (some .int)) (by decide) rfl ?_
  intro p e s m args below meth c s₁ B hml hv
  obtain ⟨rfl, hsz, hP, hK, hD0, hN⟩ := hv
  have hx := B.exec
  have hb := B.bytes
  have hr := B.returns
  have hts := ww_hts (atoms_spec (ws := ww ({ cls := "StrongParts", name := "needed", desc := "(II)I" } : Jvm.MethodName) prog_1_method_26_code 3 (some .int)) B.pre)
  have hown : s.vm.findClass "StrongParts" = some m.cls := findClass_of_methodNamed B.named
  have hlocks := B.notSynchronized
  subst hsz
  have hD := hD0.self (sz := s.heap.size)
  generalize hAe : va_A [(qx, .inr (4, [.ref qg, .ref qr, .ref qk, .ref ql])), (qg, .inr (0, [.ref ao, .ref ai, .ref an, .int 0, .int 0]))] s.heap.size = A at hD ⊢
  have hA : ∀ q : Nat, s.heap.size ≤ q → A q := fun q h => by rw [← hAe]; exact Or.inr h
  have hS : va_S A s.heap s.heap [] := va_S.rf
  have hP : va_P (dC, dI) classes [(qx, .inr (4, [.ref qg, .ref qr, .ref qk, .ref ql])), (qg, .inr (0, [.ref ao, .ref ai, .ref an, .int 0, .int 0]))] s.heap := hP
  have hl := lv_entry ([.ref qx, .int p0, .int p1]) (n := 3) (Nat.le_of_ble_eq_true rfl)
  rw [lg_entry_eq]
  generalize (lg_sl ([.ref qx, .int p0, .int p1]) ++ List.replicate (3 - (lg_sl ([.ref qx, .int p0, .int p1])).length) Slot.unset).toArray = ls at hl ⊢
  have hl : lv_has ls 3 [(0, .ref qx), (1, .int p0), (2, .int p1)] := hl
  refine lv_aload_n hx hb d_p1_26_0 rfl (lv_at hl 0 rfl) ?_
  refine lv_iload_n hx hb d_p1_26_1 rfl (lv_at hl 1 rfl) ?_
  refine lv_iload_n hx hb d_p1_26_2 rfl (lv_at hl 2 rfl) ?_
  have hPc := hP.sub (ws' := [(qx, .inr (4, [.ref qg, .ref qr, .ref qk, .ref ql])), (qg, .inr (0, [.ref ao, .ref ai, .ref an, .int 0, .int 0]))]) [0, 1] rfl
  have hDc := hD.sub (ws' := [(qx, .inr (4, [.ref qg, .ref qr, .ref qk, .ref ql])), (qg, .inr (0, [.ref ao, .ref ai, .ref an, .int 0, .int 0]))]) [0, 1] (by decide) rfl
  have hKc := hK.sub (tys' := []) [] rfl
  have hFc := va_free (wc := [(qx, .inr (4, [.ref qg, .ref qr, .ref qk, .ref ql])), (qg, .inr (0, [.ref ao, .ref ai, .ref an, .int 0, .int 0]))]) hD hS hA [0, 1] rfl
  refine va_calli (va_runV (As := [.int p0, .int p1]) (rest := []) ⟨hx, hb, hml, hown, hts⟩ (c_X_arePair l dC dI qx qg qr qk ql ao ai an p0 p1 s.heap.size) (cwV 2 hts (gV gd_182 tw_179 tw_181 tw_1 tw_55) rfl rfl rfl (by decide +kernel) ⟨Nat.le_of_ble_eq_true rfl, Nat.le_of_ble_eq_true rfl⟩) ⟨cPre_blind, va_recv hKc hPc (ci := 4) (q0 := 0) rfl rfl, cPre_pre hPc hKc hDc hN⟩ rfl rfl hl.1 rfl (lv_room (Nat.le_of_ble_eq_true rfl)) d_p1_26_3 ⟨Nat.le_of_ble_eq_true rfl, Nat.le_of_ble_eq_true rfl⟩) hS (fun q _ h => hFc q h) hFc (fun r_1 u t H1 locs ht hvm hw hB hz1 hk1 hS => ?_)
  obtain ⟨hP1, hK1, hD1⟩ := hB
  rw [ht] at hP1
  obtain ⟨hP, hD⟩ := va_join (wr := []) (w1 := [(qx, .inr (4, [.ref qg, .ref qr, .ref qk, .ref ql])), (qg, .inr (0, [.ref ao, .ref ai, .ref an, .int 0, .int 0]))]) hP hD [0, 1] [] rfl rfl (by decide) (by decide) hk1 hFc hP1 hD1
  generalize H1 = H at hP hS ⊢
  have hP : va_P (dC, dI) classes [(qx, .inr (4, [.ref qg, .ref qr, .ref qk, .ref ql])), (qg, .inr (0, [.ref ao, .ref ai, .ref an, .int 0, .int 0]))] H := hP
  have hD : va_D A [(qx, .inr (4, [.ref qg, .ref qr, .ref qk, .ref ql])), (qg, .inr (0, [.ref ao, .ref ai, .ref an, .int 0, .int 0]))] := hD
  obtain rfl : r_1 = (0 : Int32) := hw
  refine lv_if_ne (tgt := 12) hx hb d_p1_26_6 (by decide) (fun c => absurd c (by decide)) (fun _ => ?_)
  refine lv_bipush (v := (-2)) hx hb d_p1_26_9 (by decide) ?_
  have hP9 := hP.sub (ws' := []) [] rfl
  have hD9 := hD.sub (ws' := []) [] (by decide) rfl
  have hK9 := hK.sub (tys' := []) [] rfl
  exact W.iret (v := (-2)) hx hb hr (fun t ht hW => ⟨⟨(-2), (), rfl, rfl, cEnd_mk hP9 hK9 hD9 ht hW⟩, hS.F ht⟩) hS.2.2 d_p1_26_11

set_option maxHeartbeats 4000000 in
set_option maxRecDepth 100000 in
theorem c_X_way (l : Launch) (dC : Nat → ClassId) (dI : Nat → Nat → Nat) (qx : Nat) (qg : Nat) (qr : Nat) (qk : Nat) (ql : Nat) (ao : Nat) (ai : Nat) (an : Nat) (p0 : Int32) (p1 : Int32) (p2 : Int32) (sz : Nat) : Met l ({ cls := "StrongParts", name := "way", desc := "(III)I" } : Jvm.MethodName) (ww ({ cls := "StrongParts", name := "way", desc := "(III)I" } : Jvm.MethodName) prog_1_method_13_code 5 (some .int)) ({ frames := 2, cells := 0, slots := 0, locals := 43 }) (va_Pc [.ref qx, .int p0, .int p1, .int p2] (cPre (dC, dI) [(qx, .inr (4, [.ref qg, .ref qr, .ref qk, .ref ql])), (qg, .inr (0, [.ref ao, .ref ai, .ref an, .int 0, .int 0]))] [] sz)) (va_Qi (fun (r : Int32) (_ : Unit) => r = (-2)) (cEnd (dC, dI) [] [] (va_A [(qx, .inr (4, [.ref qg, .ref qr, .ref qk, .ref ql])), (qg, .inr (0, [.ref ao, .ref ai, .ref an, .int 0, .int 0]))] sz)) (va_A [(qx, .inr (4, [.ref qg, .ref qr, .ref qk, .ref ql])), (qg, .inr (0, [.ref ao, .ref ai, .ref an, .int 0, .int 0]))] sz)) 0 0 (va_A [(qx, .inr (4, [.ref qg, .ref qr, .ref qk, .ref ql])), (qg, .inr (0, [.ref ao, .ref ai, .ref an, .int 0, .int 0]))] sz) := by
  refine Met.ofW (cc := prog_1_method_13_code) (maxL := 5) (ret := (some .int)) (by decide) rfl ?_
  intro p e s m args below meth c s₁ B hml hv
  obtain ⟨rfl, hsz, hP, hK, hD0, hN⟩ := hv
  have hx := B.exec
  have hb := B.bytes
  have hr := B.returns
  have hts := ww_hts (atoms_spec (ws := ww ({ cls := "StrongParts", name := "way", desc := "(III)I" } : Jvm.MethodName) prog_1_method_13_code 5 (some .int)) B.pre)
  have hown : s.vm.findClass "StrongParts" = some m.cls := findClass_of_methodNamed B.named
  have hlocks := B.notSynchronized
  subst hsz
  have hD := hD0.self (sz := s.heap.size)
  generalize hAe : va_A [(qx, .inr (4, [.ref qg, .ref qr, .ref qk, .ref ql])), (qg, .inr (0, [.ref ao, .ref ai, .ref an, .int 0, .int 0]))] s.heap.size = A at hD ⊢
  have hA : ∀ q : Nat, s.heap.size ≤ q → A q := fun q h => by rw [← hAe]; exact Or.inr h
  have hS : va_S A s.heap s.heap [] := va_S.rf
  have hP : va_P (dC, dI) classes [(qx, .inr (4, [.ref qg, .ref qr, .ref qk, .ref ql])), (qg, .inr (0, [.ref ao, .ref ai, .ref an, .int 0, .int 0]))] s.heap := hP
  have hl := lv_entry ([.ref qx, .int p0, .int p1, .int p2]) (n := 5) (Nat.le_of_ble_eq_true rfl)
  rw [lg_entry_eq]
  generalize (lg_sl ([.ref qx, .int p0, .int p1, .int p2]) ++ List.replicate (5 - (lg_sl ([.ref qx, .int p0, .int p1, .int p2])).length) Slot.unset).toArray = ls at hl ⊢
  have hl : lv_has ls 5 [(0, .ref qx), (1, .int p0), (2, .int p1), (3, .int p2)] := hl
  refine lv_aload_n hx hb d_p1_13_0 rfl (lv_at hl 0 rfl) ?_
  refine lv_iload_n hx hb d_p1_13_1 rfl (lv_at hl 1 rfl) ?_
  refine lv_iload_n hx hb d_p1_13_2 rfl (lv_at hl 2 rfl) ?_
  have hPc := hP.sub (ws' := [(qx, .inr (4, [.ref qg, .ref qr, .ref qk, .ref ql])), (qg, .inr (0, [.ref ao, .ref ai, .ref an, .int 0, .int 0]))]) [0, 1] rfl
  have hDc := hD.sub (ws' := [(qx, .inr (4, [.ref qg, .ref qr, .ref qk, .ref ql])), (qg, .inr (0, [.ref ao, .ref ai, .ref an, .int 0, .int 0]))]) [0, 1] (by decide) rfl
  have hKc := hK.sub (tys' := []) [] rfl
  have hFc := va_free (wc := [(qx, .inr (4, [.ref qg, .ref qr, .ref qk, .ref ql])), (qg, .inr (0, [.ref ao, .ref ai, .ref an, .int 0, .int 0]))]) hD hS hA [0, 1] rfl
  refine va_calli (va_runV (As := [.int p0, .int p1]) (rest := []) ⟨hx, hb, hml, hown, hts⟩ (c_X_arePair l dC dI qx qg qr qk ql ao ai an p0 p1 s.heap.size) (cwV 2 hts (gV gd_182 tw_179 tw_181 tw_1 tw_55) rfl rfl rfl (by decide +kernel) ⟨Nat.le_of_ble_eq_true rfl, Nat.le_of_ble_eq_true rfl⟩) ⟨cPre_blind, va_recv hKc hPc (ci := 4) (q0 := 0) rfl rfl, cPre_pre hPc hKc hDc hN⟩ rfl rfl hl.1 rfl (lv_room (Nat.le_of_ble_eq_true rfl)) d_p1_13_3 ⟨Nat.le_of_ble_eq_true rfl, Nat.le_of_ble_eq_true rfl⟩) hS (fun q _ h => hFc q h) hFc (fun r_1 u t H1 locs ht hvm hw hB hz1 hk1 hS => ?_)
  obtain ⟨hP1, hK1, hD1⟩ := hB
  rw [ht] at hP1
  obtain ⟨hP, hD⟩ := va_join (wr := []) (w1 := [(qx, .inr (4, [.ref qg, .ref qr, .ref qk, .ref ql])), (qg, .inr (0, [.ref ao, .ref ai, .ref an, .int 0, .int 0]))]) hP hD [0, 1] [] rfl rfl (by decide) (by decide) hk1 hFc hP1 hD1
  generalize H1 = H at hP hS ⊢
  have hP : va_P (dC, dI) classes [(qx, .inr (4, [.ref qg, .ref qr, .ref qk, .ref ql])), (qg, .inr (0, [.ref ao, .ref ai, .ref an, .int 0, .int 0]))] H := hP
  have hD : va_D A [(qx, .inr (4, [.ref qg, .ref qr, .ref qk, .ref ql])), (qg, .inr (0, [.ref ao, .ref ai, .ref an, .int 0, .int 0]))] := hD
  obtain rfl : r_1 = (0 : Int32) := hw
  refine lv_if_ne (tgt := 12) hx hb d_p1_13_6 (by decide) (fun c => absurd c (by decide)) (fun _ => ?_)
  refine lv_bipush (v := (-2)) hx hb d_p1_13_9 (by decide) ?_
  have hP9 := hP.sub (ws' := []) [] rfl
  have hD9 := hD.sub (ws' := []) [] (by decide) rfl
  have hK9 := hK.sub (tys' := []) [] rfl
  exact W.iret (v := (-2)) hx hb hr (fun t ht hW => ⟨⟨(-2), (), rfl, rfl, cEnd_mk hP9 hK9 hD9 ht hW⟩, hS.F ht⟩) hS.2.2 d_p1_13_11

set_option maxHeartbeats 4000000 in
set_option maxRecDepth 100000 in
theorem c_X_reached (l : Launch) (dC : Nat → ClassId) (dI : Nat → Nat → Nat) (qx : Nat) (qg : Nat) (qr : Nat) (qk : Nat) (ql : Nat) (ao : Nat) (ai : Nat) (an : Nat) (p0 : Int32) (p1 : Int32) (sz : Nat) : Met l ({ cls := "StrongParts", name := "reached", desc := "(II)I" } : Jvm.MethodName) (ww ({ cls := "StrongParts", name := "reached", desc := "(II)I" } : Jvm.MethodName) prog_1_method_14_code 3 (some .int)) ({ frames := 1, cells := 0, slots := 0, locals := 21 }) (va_Pc [.ref qx, .int p0, .int p1] (cPre (dC, dI) [(qx, .inr (4, [.ref qg, .ref qr, .ref qk, .ref ql])), (qg, .inr (0, [.ref ao, .ref ai, .ref an, .int 0, .int 0]))] [] sz)) (va_Qi (fun (r : Int32) (_ : Unit) => r = (-2)) (cEnd (dC, dI) [] [] (va_A [(qx, .inr (4, [.ref qg, .ref qr, .ref qk, .ref ql])), (qg, .inr (0, [.ref ao, .ref ai, .ref an, .int 0, .int 0]))] sz)) (va_A [(qx, .inr (4, [.ref qg, .ref qr, .ref qk, .ref ql])), (qg, .inr (0, [.ref ao, .ref ai, .ref an, .int 0, .int 0]))] sz)) 0 0 (va_A [(qx, .inr (4, [.ref qg, .ref qr, .ref qk, .ref ql])), (qg, .inr (0, [.ref ao, .ref ai, .ref an, .int 0, .int 0]))] sz) := by
  refine Met.ofW (cc := prog_1_method_14_code) (maxL := 3) (ret := (some .int)) (by decide) rfl ?_
  intro p e s m args below meth c s₁ B hml hv
  obtain ⟨rfl, hsz, hP, hK, hD0, hN⟩ := hv
  have hx := B.exec
  have hb := B.bytes
  have hr := B.returns
  have hts := ww_hts (atoms_spec (ws := ww ({ cls := "StrongParts", name := "reached", desc := "(II)I" } : Jvm.MethodName) prog_1_method_14_code 3 (some .int)) B.pre)
  have hown : s.vm.findClass "StrongParts" = some m.cls := findClass_of_methodNamed B.named
  have hlocks := B.notSynchronized
  subst hsz
  have hD := hD0.self (sz := s.heap.size)
  generalize hAe : va_A [(qx, .inr (4, [.ref qg, .ref qr, .ref qk, .ref ql])), (qg, .inr (0, [.ref ao, .ref ai, .ref an, .int 0, .int 0]))] s.heap.size = A at hD ⊢
  have hA : ∀ q : Nat, s.heap.size ≤ q → A q := fun q h => by rw [← hAe]; exact Or.inr h
  have hS : va_S A s.heap s.heap [] := va_S.rf
  have hP : va_P (dC, dI) classes [(qx, .inr (4, [.ref qg, .ref qr, .ref qk, .ref ql])), (qg, .inr (0, [.ref ao, .ref ai, .ref an, .int 0, .int 0]))] s.heap := hP
  have hl := lv_entry ([.ref qx, .int p0, .int p1]) (n := 3) (Nat.le_of_ble_eq_true rfl)
  rw [lg_entry_eq]
  generalize (lg_sl ([.ref qx, .int p0, .int p1]) ++ List.replicate (3 - (lg_sl ([.ref qx, .int p0, .int p1])).length) Slot.unset).toArray = ls at hl ⊢
  have hl : lv_has ls 3 [(0, .ref qx), (1, .int p0), (2, .int p1)] := hl
  refine lv_aload_n hx hb d_p1_14_0 rfl (lv_at hl 0 rfl) ?_
  refine va_get (D := (dC, dI)) (ci := 4) (v := .ref qg) (C := "StrongParts") (T := T_4) (N := 4) hx hb hts in_4 hown hK hP 0 rfl rfl 0 (by decide) (hts _ tw_147) (fun _ h9 => h9) rfl d_p1_14_1 ?_
  refine lv_iload_n hx hb d_p1_14_4 rfl (lv_at hl 1 rfl) ?_
  have hPc := hP.sub (ws' := [(qg, .inr (0, [.ref ao, .ref ai, .ref an, .int 0, .int 0]))]) [1] rfl
  have hDc := hD.sub (ws' := [(qg, .inr (0, [.ref ao, .ref ai, .ref an, .int 0, .int 0]))]) [1] (by decide) rfl
  have hKc := hK.sub (tys' := []) [] rfl
  have hFc := va_free (wc := [(qg, .inr (0, [.ref ao, .ref ai, .ref an, .int 0, .int 0]))]) hD hS hA [1] rfl
  refine va_calli (va_runVN (As := [.int p0]) (rest := []) ⟨hx, hb, hml, hown, hts⟩ (c_G_isNode l dC dI qg ao ai an p0 s.heap.size) (⟨va_cnB 1 hts (gd_186) rfl rfl rfl (hN _ nw_183) (hts _ tw_56) (by decide +kernel) ⟨Nat.le_of_ble_eq_true rfl, Nat.le_of_ble_eq_true rfl⟩, hts _ tw_185, hts _ tw_2⟩) ⟨cPre_blind, va_recv hKc hPc (ci := 0) (q0 := 0) rfl rfl, cPre_pre hPc hKc hDc hN⟩ rfl rfl hl.1 rfl (lv_room (Nat.le_of_ble_eq_true rfl)) d_p1_14_5 ⟨Nat.le_of_ble_eq_true rfl, Nat.le_of_ble_eq_true rfl⟩) hS (fun q _ h => hFc q h) hFc (fun r_1 u t H1 locs ht hvm hw hB hz1 hk1 hS => ?_)
  obtain ⟨hP1, hK1, hD1⟩ := hB
  rw [ht] at hP1
  obtain ⟨hP, hD⟩ := va_join (wr := [(qx, .inr (4, [.ref qg, .ref qr, .ref qk, .ref ql]))]) (w1 := [(qg, .inr (0, [.ref ao, .ref ai, .ref an, .int 0, .int 0]))]) hP hD [1] [0] rfl rfl (by decide) (by decide) hk1 hFc hP1 hD1
  generalize H1 = H at hP hS ⊢
  have hP : va_P (dC, dI) classes [(qx, .inr (4, [.ref qg, .ref qr, .ref qk, .ref ql])), (qg, .inr (0, [.ref ao, .ref ai, .ref an, .int 0, .int 0]))] H := hP
  have hD : va_D A [(qx, .inr (4, [.ref qg, .ref qr, .ref qk, .ref ql])), (qg, .inr (0, [.ref ao, .ref ai, .ref an, .int 0, .int 0]))] := hD
  obtain rfl : r_1 = (0 : Int32) := hw
  refine lv_if_eq (tgt := 20) hx hb d_p1_14_8 (by decide) (fun _ => ?_) (fun c => absurd (by decide) c)
  refine lv_bipush (v := (-2)) hx hb d_p1_14_20 (by decide) ?_
  have hP9 := hP.sub (ws' := []) [] rfl
  have hD9 := hD.sub (ws' := []) [] (by decide) rfl
  have hK9 := hK.sub (tys' := []) [] rfl
  exact W.iret (v := (-2)) hx hb hr (fun t ht hW => ⟨⟨(-2), (), rfl, rfl, cEnd_mk hP9 hK9 hD9 ht hW⟩, hS.F ht⟩) hS.2.2 d_p1_14_22

set_option maxHeartbeats 4000000 in
set_option maxRecDepth 100000 in
theorem c_X_knot (l : Launch) (dC : Nat → ClassId) (dI : Nat → Nat → Nat) (qx : Nat) (qg : Nat) (qr : Nat) (qk : Nat) (ql : Nat) (ao : Nat) (ai : Nat) (an : Nat) (p0 : Int32) (sz : Nat) : Met l ({ cls := "StrongParts", name := "knot", desc := "(I)I" } : Jvm.MethodName) (ww ({ cls := "StrongParts", name := "knot", desc := "(I)I" } : Jvm.MethodName) prog_1_method_7_code 2 (some .int)) ({ frames := 1, cells := 0, slots := 0, locals := 21 }) (va_Pc [.ref qx, .int p0] (cPre (dC, dI) [(qx, .inr (4, [.ref qg, .ref qr, .ref qk, .ref ql])), (qg, .inr (0, [.ref ao, .ref ai, .ref an, .int 0, .int 0]))] [] sz)) (va_Qi (fun (r : Int32) (_ : Unit) => r = (-2)) (cEnd (dC, dI) [] [] (va_A [(qx, .inr (4, [.ref qg, .ref qr, .ref qk, .ref ql])), (qg, .inr (0, [.ref ao, .ref ai, .ref an, .int 0, .int 0]))] sz)) (va_A [(qx, .inr (4, [.ref qg, .ref qr, .ref qk, .ref ql])), (qg, .inr (0, [.ref ao, .ref ai, .ref an, .int 0, .int 0]))] sz)) 0 0 (va_A [(qx, .inr (4, [.ref qg, .ref qr, .ref qk, .ref ql])), (qg, .inr (0, [.ref ao, .ref ai, .ref an, .int 0, .int 0]))] sz) := by
  refine Met.ofW (cc := prog_1_method_7_code) (maxL := 2) (ret := (some .int)) (by decide) rfl ?_
  intro p e s m args below meth c s₁ B hml hv
  obtain ⟨rfl, hsz, hP, hK, hD0, hN⟩ := hv
  have hx := B.exec
  have hb := B.bytes
  have hr := B.returns
  have hts := ww_hts (atoms_spec (ws := ww ({ cls := "StrongParts", name := "knot", desc := "(I)I" } : Jvm.MethodName) prog_1_method_7_code 2 (some .int)) B.pre)
  have hown : s.vm.findClass "StrongParts" = some m.cls := findClass_of_methodNamed B.named
  have hlocks := B.notSynchronized
  subst hsz
  have hD := hD0.self (sz := s.heap.size)
  generalize hAe : va_A [(qx, .inr (4, [.ref qg, .ref qr, .ref qk, .ref ql])), (qg, .inr (0, [.ref ao, .ref ai, .ref an, .int 0, .int 0]))] s.heap.size = A at hD ⊢
  have hA : ∀ q : Nat, s.heap.size ≤ q → A q := fun q h => by rw [← hAe]; exact Or.inr h
  have hS : va_S A s.heap s.heap [] := va_S.rf
  have hP : va_P (dC, dI) classes [(qx, .inr (4, [.ref qg, .ref qr, .ref qk, .ref ql])), (qg, .inr (0, [.ref ao, .ref ai, .ref an, .int 0, .int 0]))] s.heap := hP
  have hl := lv_entry ([.ref qx, .int p0]) (n := 2) (Nat.le_of_ble_eq_true rfl)
  rw [lg_entry_eq]
  generalize (lg_sl ([.ref qx, .int p0]) ++ List.replicate (2 - (lg_sl ([.ref qx, .int p0])).length) Slot.unset).toArray = ls at hl ⊢
  have hl : lv_has ls 2 [(0, .ref qx), (1, .int p0)] := hl
  refine lv_aload_n hx hb d_p1_7_0 rfl (lv_at hl 0 rfl) ?_
  refine va_get (D := (dC, dI)) (ci := 4) (v := .ref qg) (C := "StrongParts") (T := T_4) (N := 4) hx hb hts in_4 hown hK hP 0 rfl rfl 0 (by decide) (hts _ tw_147) (fun _ h9 => h9) rfl d_p1_7_1 ?_
  refine lv_iload_n hx hb d_p1_7_4 rfl (lv_at hl 1 rfl) ?_
  have hPc := hP.sub (ws' := [(qg, .inr (0, [.ref ao, .ref ai, .ref an, .int 0, .int 0]))]) [1] rfl
  have hDc := hD.sub (ws' := [(qg, .inr (0, [.ref ao, .ref ai, .ref an, .int 0, .int 0]))]) [1] (by decide) rfl
  have hKc := hK.sub (tys' := []) [] rfl
  have hFc := va_free (wc := [(qg, .inr (0, [.ref ao, .ref ai, .ref an, .int 0, .int 0]))]) hD hS hA [1] rfl
  refine va_calli (va_runVN (As := [.int p0]) (rest := []) ⟨hx, hb, hml, hown, hts⟩ (c_G_isNode l dC dI qg ao ai an p0 s.heap.size) (⟨va_cnB 1 hts (gd_186) rfl rfl rfl (hN _ nw_183) (hts _ tw_56) (by decide +kernel) ⟨Nat.le_of_ble_eq_true rfl, Nat.le_of_ble_eq_true rfl⟩, hts _ tw_185, hts _ tw_2⟩) ⟨cPre_blind, va_recv hKc hPc (ci := 0) (q0 := 0) rfl rfl, cPre_pre hPc hKc hDc hN⟩ rfl rfl hl.1 rfl (lv_room (Nat.le_of_ble_eq_true rfl)) d_p1_7_5 ⟨Nat.le_of_ble_eq_true rfl, Nat.le_of_ble_eq_true rfl⟩) hS (fun q _ h => hFc q h) hFc (fun r_1 u t H1 locs ht hvm hw hB hz1 hk1 hS => ?_)
  obtain ⟨hP1, hK1, hD1⟩ := hB
  rw [ht] at hP1
  obtain ⟨hP, hD⟩ := va_join (wr := [(qx, .inr (4, [.ref qg, .ref qr, .ref qk, .ref ql]))]) (w1 := [(qg, .inr (0, [.ref ao, .ref ai, .ref an, .int 0, .int 0]))]) hP hD [1] [0] rfl rfl (by decide) (by decide) hk1 hFc hP1 hD1
  generalize H1 = H at hP hS ⊢
  have hP : va_P (dC, dI) classes [(qx, .inr (4, [.ref qg, .ref qr, .ref qk, .ref ql])), (qg, .inr (0, [.ref ao, .ref ai, .ref an, .int 0, .int 0]))] H := hP
  have hD : va_D A [(qx, .inr (4, [.ref qg, .ref qr, .ref qk, .ref ql])), (qg, .inr (0, [.ref ao, .ref ai, .ref an, .int 0, .int 0]))] := hD
  obtain rfl : r_1 = (0 : Int32) := hw
  refine lv_if_ne (tgt := 14) hx hb d_p1_7_8 (by decide) (fun c => absurd c (by decide)) (fun _ => ?_)
  refine lv_bipush (v := (-2)) hx hb d_p1_7_11 (by decide) ?_
  have hP9 := hP.sub (ws' := []) [] rfl
  have hD9 := hD.sub (ws' := []) [] (by decide) rfl
  have hK9 := hK.sub (tys' := []) [] rfl
  exact W.iret (v := (-2)) hx hb hr (fun t ht hW => ⟨⟨(-2), (), rfl, rfl, cEnd_mk hP9 hK9 hD9 ht hW⟩, hS.F ht⟩) hS.2.2 d_p1_7_13

set_option maxHeartbeats 4000000 in
set_option maxRecDepth 100000 in
theorem c_X_round (l : Launch) (dC : Nat → ClassId) (dI : Nat → Nat → Nat) (qx : Nat) (qg : Nat) (qr : Nat) (qk : Nat) (ql : Nat) (ao : Nat) (ai : Nat) (an : Nat) (p0 : Int32) (sz : Nat) : Met l ({ cls := "StrongParts", name := "round", desc := "(I)I" } : Jvm.MethodName) (ww ({ cls := "StrongParts", name := "round", desc := "(I)I" } : Jvm.MethodName) prog_1_method_15_code 3 (some .int)) ({ frames := 1, cells := 0, slots := 0, locals := 21 }) (va_Pc [.ref qx, .int p0] (cPre (dC, dI) [(qx, .inr (4, [.ref qg, .ref qr, .ref qk, .ref ql])), (qg, .inr (0, [.ref ao, .ref ai, .ref an, .int 0, .int 0]))] [] sz)) (va_Qi (fun (r : Int32) (_ : Unit) => r = (-2)) (cEnd (dC, dI) [] [] (va_A [(qx, .inr (4, [.ref qg, .ref qr, .ref qk, .ref ql])), (qg, .inr (0, [.ref ao, .ref ai, .ref an, .int 0, .int 0]))] sz)) (va_A [(qx, .inr (4, [.ref qg, .ref qr, .ref qk, .ref ql])), (qg, .inr (0, [.ref ao, .ref ai, .ref an, .int 0, .int 0]))] sz)) 0 0 (va_A [(qx, .inr (4, [.ref qg, .ref qr, .ref qk, .ref ql])), (qg, .inr (0, [.ref ao, .ref ai, .ref an, .int 0, .int 0]))] sz) := by
  refine Met.ofW (cc := prog_1_method_15_code) (maxL := 3) (ret := (some .int)) (by decide) rfl ?_
  intro p e s m args below meth c s₁ B hml hv
  obtain ⟨rfl, hsz, hP, hK, hD0, hN⟩ := hv
  have hx := B.exec
  have hb := B.bytes
  have hr := B.returns
  have hts := ww_hts (atoms_spec (ws := ww ({ cls := "StrongParts", name := "round", desc := "(I)I" } : Jvm.MethodName) prog_1_method_15_code 3 (some .int)) B.pre)
  have hown : s.vm.findClass "StrongParts" = some m.cls := findClass_of_methodNamed B.named
  have hlocks := B.notSynchronized
  subst hsz
  have hD := hD0.self (sz := s.heap.size)
  generalize hAe : va_A [(qx, .inr (4, [.ref qg, .ref qr, .ref qk, .ref ql])), (qg, .inr (0, [.ref ao, .ref ai, .ref an, .int 0, .int 0]))] s.heap.size = A at hD ⊢
  have hA : ∀ q : Nat, s.heap.size ≤ q → A q := fun q h => by rw [← hAe]; exact Or.inr h
  have hS : va_S A s.heap s.heap [] := va_S.rf
  have hP : va_P (dC, dI) classes [(qx, .inr (4, [.ref qg, .ref qr, .ref qk, .ref ql])), (qg, .inr (0, [.ref ao, .ref ai, .ref an, .int 0, .int 0]))] s.heap := hP
  have hl := lv_entry ([.ref qx, .int p0]) (n := 3) (Nat.le_of_ble_eq_true rfl)
  rw [lg_entry_eq]
  generalize (lg_sl ([.ref qx, .int p0]) ++ List.replicate (3 - (lg_sl ([.ref qx, .int p0])).length) Slot.unset).toArray = ls at hl ⊢
  have hl : lv_has ls 3 [(0, .ref qx), (1, .int p0)] := hl
  refine lv_aload_n hx hb d_p1_15_0 rfl (lv_at hl 0 rfl) ?_
  refine va_get (D := (dC, dI)) (ci := 4) (v := .ref qg) (C := "StrongParts") (T := T_4) (N := 4) hx hb hts in_4 hown hK hP 0 rfl rfl 0 (by decide) (hts _ tw_147) (fun _ h9 => h9) rfl d_p1_15_1 ?_
  refine lv_iload_n hx hb d_p1_15_4 rfl (lv_at hl 1 rfl) ?_
  have hPc := hP.sub (ws' := [(qg, .inr (0, [.ref ao, .ref ai, .ref an, .int 0, .int 0]))]) [1] rfl
  have hDc := hD.sub (ws' := [(qg, .inr (0, [.ref ao, .ref ai, .ref an, .int 0, .int 0]))]) [1] (by decide) rfl
  have hKc := hK.sub (tys' := []) [] rfl
  have hFc := va_free (wc := [(qg, .inr (0, [.ref ao, .ref ai, .ref an, .int 0, .int 0]))]) hD hS hA [1] rfl
  refine va_calli (va_runVN (As := [.int p0]) (rest := []) ⟨hx, hb, hml, hown, hts⟩ (c_G_isNode l dC dI qg ao ai an p0 s.heap.size) (⟨va_cnB 1 hts (gd_186) rfl rfl rfl (hN _ nw_183) (hts _ tw_56) (by decide +kernel) ⟨Nat.le_of_ble_eq_true rfl, Nat.le_of_ble_eq_true rfl⟩, hts _ tw_185, hts _ tw_2⟩) ⟨cPre_blind, va_recv hKc hPc (ci := 0) (q0 := 0) rfl rfl, cPre_pre hPc hKc hDc hN⟩ rfl rfl hl.1 rfl (lv_room (Nat.le_of_ble_eq_true rfl)) d_p1_15_5 ⟨Nat.le_of_ble_eq_true rfl, Nat.le_of_ble_eq_true rfl⟩) hS (fun q _ h => hFc q h) hFc (fun r_1 u t H1 locs ht hvm hw hB hz1 hk1 hS => ?_)
  obtain ⟨hP1, hK1, hD1⟩ := hB
  rw [ht] at hP1
  obtain ⟨hP, hD⟩ := va_join (wr := [(qx, .inr (4, [.ref qg, .ref qr, .ref qk, .ref ql]))]) (w1 := [(qg, .inr (0, [.ref ao, .ref ai, .ref an, .int 0, .int 0]))]) hP hD [1] [0] rfl rfl (by decide) (by decide) hk1 hFc hP1 hD1
  generalize H1 = H at hP hS ⊢
  have hP : va_P (dC, dI) classes [(qx, .inr (4, [.ref qg, .ref qr, .ref qk, .ref ql])), (qg, .inr (0, [.ref ao, .ref ai, .ref an, .int 0, .int 0]))] H := hP
  have hD : va_D A [(qx, .inr (4, [.ref qg, .ref qr, .ref qk, .ref ql])), (qg, .inr (0, [.ref ao, .ref ai, .ref an, .int 0, .int 0]))] := hD
  obtain rfl : r_1 = (0 : Int32) := hw
  refine lv_if_ne (tgt := 14) hx hb d_p1_15_8 (by decide) (fun c => absurd c (by decide)) (fun _ => ?_)
  refine lv_bipush (v := (-2)) hx hb d_p1_15_11 (by decide) ?_
  have hP9 := hP.sub (ws' := []) [] rfl
  have hD9 := hD.sub (ws' := []) [] (by decide) rfl
  have hK9 := hK.sub (tys' := []) [] rfl
  exact W.iret (v := (-2)) hx hb hr (fun t ht hW => ⟨⟨(-2), (), rfl, rfl, cEnd_mk hP9 hK9 hD9 ht hW⟩, hS.F ht⟩) hS.2.2 d_p1_15_13

set_option maxHeartbeats 4000000 in
set_option maxRecDepth 100000 in
theorem c_X_part (l : Launch) (dC : Nat → ClassId) (dI : Nat → Nat → Nat) (qx : Nat) (qg : Nat) (qr : Nat) (qk : Nat) (ql : Nat) (ao : Nat) (ai : Nat) (an : Nat) (p0 : Int32) (sz : Nat) : Met l ({ cls := "StrongParts", name := "part", desc := "(I)I" } : Jvm.MethodName) (ww ({ cls := "StrongParts", name := "part", desc := "(I)I" } : Jvm.MethodName) prog_1_method_17_code 2 (some .int)) ({ frames := 1, cells := 0, slots := 0, locals := 21 }) (va_Pc [.ref qx, .int p0] (cPre (dC, dI) [(qx, .inr (4, [.ref qg, .ref qr, .ref qk, .ref ql])), (qg, .inr (0, [.ref ao, .ref ai, .ref an, .int 0, .int 0]))] [] sz)) (va_Qi (fun (r : Int32) (_ : Unit) => r = (-2)) (cEnd (dC, dI) [] [] (va_A [(qx, .inr (4, [.ref qg, .ref qr, .ref qk, .ref ql])), (qg, .inr (0, [.ref ao, .ref ai, .ref an, .int 0, .int 0]))] sz)) (va_A [(qx, .inr (4, [.ref qg, .ref qr, .ref qk, .ref ql])), (qg, .inr (0, [.ref ao, .ref ai, .ref an, .int 0, .int 0]))] sz)) 0 0 (va_A [(qx, .inr (4, [.ref qg, .ref qr, .ref qk, .ref ql])), (qg, .inr (0, [.ref ao, .ref ai, .ref an, .int 0, .int 0]))] sz) := by
  refine Met.ofW (cc := prog_1_method_17_code) (maxL := 2) (ret := (some .int)) (by decide) rfl ?_
  intro p e s m args below meth c s₁ B hml hv
  obtain ⟨rfl, hsz, hP, hK, hD0, hN⟩ := hv
  have hx := B.exec
  have hb := B.bytes
  have hr := B.returns
  have hts := ww_hts (atoms_spec (ws := ww ({ cls := "StrongParts", name := "part", desc := "(I)I" } : Jvm.MethodName) prog_1_method_17_code 2 (some .int)) B.pre)
  have hown : s.vm.findClass "StrongParts" = some m.cls := findClass_of_methodNamed B.named
  have hlocks := B.notSynchronized
  subst hsz
  have hD := hD0.self (sz := s.heap.size)
  generalize hAe : va_A [(qx, .inr (4, [.ref qg, .ref qr, .ref qk, .ref ql])), (qg, .inr (0, [.ref ao, .ref ai, .ref an, .int 0, .int 0]))] s.heap.size = A at hD ⊢
  have hA : ∀ q : Nat, s.heap.size ≤ q → A q := fun q h => by rw [← hAe]; exact Or.inr h
  have hS : va_S A s.heap s.heap [] := va_S.rf
  have hP : va_P (dC, dI) classes [(qx, .inr (4, [.ref qg, .ref qr, .ref qk, .ref ql])), (qg, .inr (0, [.ref ao, .ref ai, .ref an, .int 0, .int 0]))] s.heap := hP
  have hl := lv_entry ([.ref qx, .int p0]) (n := 2) (Nat.le_of_ble_eq_true rfl)
  rw [lg_entry_eq]
  generalize (lg_sl ([.ref qx, .int p0]) ++ List.replicate (2 - (lg_sl ([.ref qx, .int p0])).length) Slot.unset).toArray = ls at hl ⊢
  have hl : lv_has ls 2 [(0, .ref qx), (1, .int p0)] := hl
  refine lv_aload_n hx hb d_p1_17_0 rfl (lv_at hl 0 rfl) ?_
  refine va_get (D := (dC, dI)) (ci := 4) (v := .ref qg) (C := "StrongParts") (T := T_4) (N := 4) hx hb hts in_4 hown hK hP 0 rfl rfl 0 (by decide) (hts _ tw_147) (fun _ h9 => h9) rfl d_p1_17_1 ?_
  refine lv_iload_n hx hb d_p1_17_4 rfl (lv_at hl 1 rfl) ?_
  have hPc := hP.sub (ws' := [(qg, .inr (0, [.ref ao, .ref ai, .ref an, .int 0, .int 0]))]) [1] rfl
  have hDc := hD.sub (ws' := [(qg, .inr (0, [.ref ao, .ref ai, .ref an, .int 0, .int 0]))]) [1] (by decide) rfl
  have hKc := hK.sub (tys' := []) [] rfl
  have hFc := va_free (wc := [(qg, .inr (0, [.ref ao, .ref ai, .ref an, .int 0, .int 0]))]) hD hS hA [1] rfl
  refine va_calli (va_runVN (As := [.int p0]) (rest := []) ⟨hx, hb, hml, hown, hts⟩ (c_G_isNode l dC dI qg ao ai an p0 s.heap.size) (⟨va_cnB 1 hts (gd_186) rfl rfl rfl (hN _ nw_183) (hts _ tw_56) (by decide +kernel) ⟨Nat.le_of_ble_eq_true rfl, Nat.le_of_ble_eq_true rfl⟩, hts _ tw_185, hts _ tw_2⟩) ⟨cPre_blind, va_recv hKc hPc (ci := 0) (q0 := 0) rfl rfl, cPre_pre hPc hKc hDc hN⟩ rfl rfl hl.1 rfl (lv_room (Nat.le_of_ble_eq_true rfl)) d_p1_17_5 ⟨Nat.le_of_ble_eq_true rfl, Nat.le_of_ble_eq_true rfl⟩) hS (fun q _ h => hFc q h) hFc (fun r_1 u t H1 locs ht hvm hw hB hz1 hk1 hS => ?_)
  obtain ⟨hP1, hK1, hD1⟩ := hB
  rw [ht] at hP1
  obtain ⟨hP, hD⟩ := va_join (wr := [(qx, .inr (4, [.ref qg, .ref qr, .ref qk, .ref ql]))]) (w1 := [(qg, .inr (0, [.ref ao, .ref ai, .ref an, .int 0, .int 0]))]) hP hD [1] [0] rfl rfl (by decide) (by decide) hk1 hFc hP1 hD1
  generalize H1 = H at hP hS ⊢
  have hP : va_P (dC, dI) classes [(qx, .inr (4, [.ref qg, .ref qr, .ref qk, .ref ql])), (qg, .inr (0, [.ref ao, .ref ai, .ref an, .int 0, .int 0]))] H := hP
  have hD : va_D A [(qx, .inr (4, [.ref qg, .ref qr, .ref qk, .ref ql])), (qg, .inr (0, [.ref ao, .ref ai, .ref an, .int 0, .int 0]))] := hD
  obtain rfl : r_1 = (0 : Int32) := hw
  refine lv_if_ne (tgt := 14) hx hb d_p1_17_8 (by decide) (fun c => absurd c (by decide)) (fun _ => ?_)
  refine lv_bipush (v := (-2)) hx hb d_p1_17_11 (by decide) ?_
  have hP9 := hP.sub (ws' := []) [] rfl
  have hD9 := hD.sub (ws' := []) [] (by decide) rfl
  have hK9 := hK.sub (tys' := []) [] rfl
  exact W.iret (v := (-2)) hx hb hr (fun t ht hW => ⟨⟨(-2), (), rfl, rfl, cEnd_mk hP9 hK9 hD9 ht hW⟩, hS.F ht⟩) hS.2.2 d_p1_17_13

set_option maxHeartbeats 4000000 in
set_option maxRecDepth 100000 in
theorem c_X_side (l : Launch) (dC : Nat → ClassId) (dI : Nat → Nat → Nat) (qx : Nat) (qg : Nat) (qr : Nat) (qk : Nat) (ql : Nat) (ao : Nat) (ai : Nat) (an : Nat) (p0 : Int32) (sz : Nat) : Met l ({ cls := "StrongParts", name := "side", desc := "(I)I" } : Jvm.MethodName) (ww ({ cls := "StrongParts", name := "side", desc := "(I)I" } : Jvm.MethodName) prog_1_method_18_code 2 (some .int)) ({ frames := 1, cells := 0, slots := 0, locals := 21 }) (va_Pc [.ref qx, .int p0] (cPre (dC, dI) [(qx, .inr (4, [.ref qg, .ref qr, .ref qk, .ref ql])), (qg, .inr (0, [.ref ao, .ref ai, .ref an, .int 0, .int 0]))] [] sz)) (va_Qi (fun (r : Int32) (_ : Unit) => r = (-2)) (cEnd (dC, dI) [] [] (va_A [(qx, .inr (4, [.ref qg, .ref qr, .ref qk, .ref ql])), (qg, .inr (0, [.ref ao, .ref ai, .ref an, .int 0, .int 0]))] sz)) (va_A [(qx, .inr (4, [.ref qg, .ref qr, .ref qk, .ref ql])), (qg, .inr (0, [.ref ao, .ref ai, .ref an, .int 0, .int 0]))] sz)) 0 0 (va_A [(qx, .inr (4, [.ref qg, .ref qr, .ref qk, .ref ql])), (qg, .inr (0, [.ref ao, .ref ai, .ref an, .int 0, .int 0]))] sz) := by
  refine Met.ofW (cc := prog_1_method_18_code) (maxL := 2) (ret := (some .int)) (by decide) rfl ?_
  intro p e s m args below meth c s₁ B hml hv
  obtain ⟨rfl, hsz, hP, hK, hD0, hN⟩ := hv
  have hx := B.exec
  have hb := B.bytes
  have hr := B.returns
  have hts := ww_hts (atoms_spec (ws := ww ({ cls := "StrongParts", name := "side", desc := "(I)I" } : Jvm.MethodName) prog_1_method_18_code 2 (some .int)) B.pre)
  have hown : s.vm.findClass "StrongParts" = some m.cls := findClass_of_methodNamed B.named
  have hlocks := B.notSynchronized
  subst hsz
  have hD := hD0.self (sz := s.heap.size)
  generalize hAe : va_A [(qx, .inr (4, [.ref qg, .ref qr, .ref qk, .ref ql])), (qg, .inr (0, [.ref ao, .ref ai, .ref an, .int 0, .int 0]))] s.heap.size = A at hD ⊢
  have hA : ∀ q : Nat, s.heap.size ≤ q → A q := fun q h => by rw [← hAe]; exact Or.inr h
  have hS : va_S A s.heap s.heap [] := va_S.rf
  have hP : va_P (dC, dI) classes [(qx, .inr (4, [.ref qg, .ref qr, .ref qk, .ref ql])), (qg, .inr (0, [.ref ao, .ref ai, .ref an, .int 0, .int 0]))] s.heap := hP
  have hl := lv_entry ([.ref qx, .int p0]) (n := 2) (Nat.le_of_ble_eq_true rfl)
  rw [lg_entry_eq]
  generalize (lg_sl ([.ref qx, .int p0]) ++ List.replicate (2 - (lg_sl ([.ref qx, .int p0])).length) Slot.unset).toArray = ls at hl ⊢
  have hl : lv_has ls 2 [(0, .ref qx), (1, .int p0)] := hl
  refine lv_aload_n hx hb d_p1_18_0 rfl (lv_at hl 0 rfl) ?_
  refine va_get (D := (dC, dI)) (ci := 4) (v := .ref qg) (C := "StrongParts") (T := T_4) (N := 4) hx hb hts in_4 hown hK hP 0 rfl rfl 0 (by decide) (hts _ tw_147) (fun _ h9 => h9) rfl d_p1_18_1 ?_
  refine lv_iload_n hx hb d_p1_18_4 rfl (lv_at hl 1 rfl) ?_
  have hPc := hP.sub (ws' := [(qg, .inr (0, [.ref ao, .ref ai, .ref an, .int 0, .int 0]))]) [1] rfl
  have hDc := hD.sub (ws' := [(qg, .inr (0, [.ref ao, .ref ai, .ref an, .int 0, .int 0]))]) [1] (by decide) rfl
  have hKc := hK.sub (tys' := []) [] rfl
  have hFc := va_free (wc := [(qg, .inr (0, [.ref ao, .ref ai, .ref an, .int 0, .int 0]))]) hD hS hA [1] rfl
  refine va_calli (va_runVN (As := [.int p0]) (rest := []) ⟨hx, hb, hml, hown, hts⟩ (c_G_isNode l dC dI qg ao ai an p0 s.heap.size) (⟨va_cnB 1 hts (gd_186) rfl rfl rfl (hN _ nw_183) (hts _ tw_56) (by decide +kernel) ⟨Nat.le_of_ble_eq_true rfl, Nat.le_of_ble_eq_true rfl⟩, hts _ tw_185, hts _ tw_2⟩) ⟨cPre_blind, va_recv hKc hPc (ci := 0) (q0 := 0) rfl rfl, cPre_pre hPc hKc hDc hN⟩ rfl rfl hl.1 rfl (lv_room (Nat.le_of_ble_eq_true rfl)) d_p1_18_5 ⟨Nat.le_of_ble_eq_true rfl, Nat.le_of_ble_eq_true rfl⟩) hS (fun q _ h => hFc q h) hFc (fun r_1 u t H1 locs ht hvm hw hB hz1 hk1 hS => ?_)
  obtain ⟨hP1, hK1, hD1⟩ := hB
  rw [ht] at hP1
  obtain ⟨hP, hD⟩ := va_join (wr := [(qx, .inr (4, [.ref qg, .ref qr, .ref qk, .ref ql]))]) (w1 := [(qg, .inr (0, [.ref ao, .ref ai, .ref an, .int 0, .int 0]))]) hP hD [1] [0] rfl rfl (by decide) (by decide) hk1 hFc hP1 hD1
  generalize H1 = H at hP hS ⊢
  have hP : va_P (dC, dI) classes [(qx, .inr (4, [.ref qg, .ref qr, .ref qk, .ref ql])), (qg, .inr (0, [.ref ao, .ref ai, .ref an, .int 0, .int 0]))] H := hP
  have hD : va_D A [(qx, .inr (4, [.ref qg, .ref qr, .ref qk, .ref ql])), (qg, .inr (0, [.ref ao, .ref ai, .ref an, .int 0, .int 0]))] := hD
  obtain rfl : r_1 = (0 : Int32) := hw
  refine lv_if_ne (tgt := 14) hx hb d_p1_18_8 (by decide) (fun c => absurd c (by decide)) (fun _ => ?_)
  refine lv_bipush (v := (-2)) hx hb d_p1_18_11 (by decide) ?_
  have hP9 := hP.sub (ws' := []) [] rfl
  have hD9 := hD.sub (ws' := []) [] (by decide) rfl
  have hK9 := hK.sub (tys' := []) [] rfl
  exact W.iret (v := (-2)) hx hb hr (fun t ht hW => ⟨⟨(-2), (), rfl, rfl, cEnd_mk hP9 hK9 hD9 ht hW⟩, hS.F ht⟩) hS.2.2 d_p1_18_13

set_option maxHeartbeats 4000000 in
set_option maxRecDepth 100000 in
theorem c_X_knots (l : Launch) (dC : Nat → ClassId) (dI : Nat → Nat → Nat) (qx : Nat) (qg : Nat) (qr : Nat) (qk : Nat) (ql : Nat) (ao : Nat) (ai : Nat) (an : Nat) (as_ : Nat) (sz : Nat) : Met l ({ cls := "StrongParts", name := "knots", desc := "()I" } : Jvm.MethodName) (ww ({ cls := "StrongParts", name := "knots", desc := "()I" } : Jvm.MethodName) prog_1_method_6_code 1 (some .int)) ({ frames := 1, cells := 0, slots := 0, locals := 22 }) (va_Pc [.ref qx] (cPre (dC, dI) [(qx, .inr (4, [.ref qg, .ref qr, .ref qk, .ref ql])), (qg, .inr (0, [.ref ao, .ref ai, .ref an, .int 0, .int 0])), (qr, .inr (1, [.ref as_, .int 0]))] [] sz)) (va_Qi (fun (r : Int32) (_ : Unit) => r = 0) (cEnd (dC, dI) [] [] (va_A [(qx, .inr (4, [.ref qg, .ref qr, .ref qk, .ref ql])), (qg, .inr (0, [.ref ao, .ref ai, .ref an, .int 0, .int 0])), (qr, .inr (1, [.ref as_, .int 0]))] sz)) (va_A [(qx, .inr (4, [.ref qg, .ref qr, .ref qk, .ref ql])), (qg, .inr (0, [.ref ao, .ref ai, .ref an, .int 0, .int 0])), (qr, .inr (1, [.ref as_, .int 0]))] sz)) 0 0 (va_A [(qx, .inr (4, [.ref qg, .ref qr, .ref qk, .ref ql])), (qg, .inr (0, [.ref ao, .ref ai, .ref an, .int 0, .int 0])), (qr, .inr (1, [.ref as_, .int 0]))] sz) := by
  refine Met.ofW (cc := prog_1_method_6_code) (maxL := 1) (ret := (some .int)) (by decide) rfl ?_
  intro p e s m args below meth c s₁ B hml hv
  obtain ⟨rfl, hsz, hP, hK, hD0, hN⟩ := hv
  have hx := B.exec
  have hb := B.bytes
  have hr := B.returns
  have hts := ww_hts (atoms_spec (ws := ww ({ cls := "StrongParts", name := "knots", desc := "()I" } : Jvm.MethodName) prog_1_method_6_code 1 (some .int)) B.pre)
  have hown : s.vm.findClass "StrongParts" = some m.cls := findClass_of_methodNamed B.named
  have hlocks := B.notSynchronized
  subst hsz
  have hD := hD0.self (sz := s.heap.size)
  generalize hAe : va_A [(qx, .inr (4, [.ref qg, .ref qr, .ref qk, .ref ql])), (qg, .inr (0, [.ref ao, .ref ai, .ref an, .int 0, .int 0])), (qr, .inr (1, [.ref as_, .int 0]))] s.heap.size = A at hD ⊢
  have hA : ∀ q : Nat, s.heap.size ≤ q → A q := fun q h => by rw [← hAe]; exact Or.inr h
  have hS : va_S A s.heap s.heap [] := va_S.rf
  have hP : va_P (dC, dI) classes [(qx, .inr (4, [.ref qg, .ref qr, .ref qk, .ref ql])), (qg, .inr (0, [.ref ao, .ref ai, .ref an, .int 0, .int 0])), (qr, .inr (1, [.ref as_, .int 0]))] s.heap := hP
  have hl := lv_entry ([.ref qx]) (n := 1) (Nat.le_of_ble_eq_true rfl)
  rw [lg_entry_eq]
  generalize (lg_sl ([.ref qx]) ++ List.replicate (1 - (lg_sl ([.ref qx])).length) Slot.unset).toArray = ls at hl ⊢
  have hl : lv_has ls 1 [(0, .ref qx)] := hl
  refine lv_aload_n hx hb d_p1_6_0 rfl (lv_at hl 0 rfl) ?_
  refine va_get (D := (dC, dI)) (ci := 4) (v := .ref qr) (C := "StrongParts") (T := T_4) (N := 4) hx hb hts in_4 hown hK hP 0 rfl rfl 1 (by decide) (hts _ tw_148) (fun _ h9 => h9) rfl d_p1_6_1 ?_
  refine lv_aload_n hx hb d_p1_6_4 rfl (lv_at hl 0 rfl) ?_
  refine va_get (D := (dC, dI)) (ci := 4) (v := .ref qg) (C := "StrongParts") (T := T_4) (N := 4) hx hb hts in_4 hown hK hP 0 rfl rfl 0 (by decide) (hts _ tw_147) (fun _ h9 => h9) rfl d_p1_6_5 ?_
  have hPc := hP.sub (ws' := [(qr, .inr (1, [.ref as_, .int 0])), (qg, .inr (0, [.ref ao, .ref ai, .ref an, .int 0, .int 0]))]) [2, 1] rfl
  have hDc := hD.sub (ws' := [(qr, .inr (1, [.ref as_, .int 0])), (qg, .inr (0, [.ref ao, .ref ai, .ref an, .int 0, .int 0]))]) [2, 1] (by decide) rfl
  have hKc := hK.sub (tys' := []) [] rfl
  have hFc := va_free (wc := [(qr, .inr (1, [.ref as_, .int 0])), (qg, .inr (0, [.ref ao, .ref ai, .ref an, .int 0, .int 0]))]) hD hS hA [2, 1] rfl
  refine va_callv (va_runVN (As := [.ref qg]) (rest := []) ⟨hx, hb, hml, hown, hts⟩ (c_GR_takeKnots l dC dI qr qg as_ ao ai an s.heap.size) (⟨va_cnB 1 hts (gd_227) rfl rfl rfl (hN _ nw_224) (hts _ tw_57) (by decide +kernel) ⟨Nat.le_of_ble_eq_true rfl, Nat.le_of_ble_eq_true rfl⟩, hts _ tw_226, hts _ tw_7⟩) ⟨cPre_blind, va_recv hKc hPc (ci := 1) (q0 := 0) rfl rfl, cPre_pre hPc hKc hDc hN⟩ rfl rfl hl.1 rfl (lv_room (Nat.le_of_ble_eq_true rfl)) d_p1_6_8 ⟨Nat.le_of_ble_eq_true rfl, Nat.le_of_ble_eq_true rfl⟩) hS (fun q _ h => hFc q h) hFc (fun u t H1 locs ht hvm hw hB hz1 hk1 hS => ?_)
  obtain ⟨hP1, hK1, hD1⟩ := hB
  rw [ht] at hP1
  obtain ⟨hP, hD⟩ := va_join (wr := [(qx, .inr (4, [.ref qg, .ref qr, .ref qk, .ref ql]))]) (w1 := [(qr, .inr (1, [.ref as_, .int 0])), (qg, .inr (0, [.ref ao, .ref ai, .ref an, .int 0, .int 0]))]) hP hD [2, 1] [0] rfl rfl (by decide) (by decide) hk1 hFc hP1 hD1
  generalize H1 = H at hP hS ⊢
  have hP : va_P (dC, dI) classes [(qx, .inr (4, [.ref qg, .ref qr, .ref qk, .ref ql])), (qr, .inr (1, [.ref as_, .int 0])), (qg, .inr (0, [.ref ao, .ref ai, .ref an, .int 0, .int 0]))] H := hP
  have hD : va_D A [(qx, .inr (4, [.ref qg, .ref qr, .ref qk, .ref ql])), (qr, .inr (1, [.ref as_, .int 0])), (qg, .inr (0, [.ref ao, .ref ai, .ref an, .int 0, .int 0]))] := hD
  refine lv_aload_n hx hb d_p1_6_11 rfl (lv_at hl 0 rfl) ?_
  refine va_get (D := (dC, dI)) (ci := 4) (v := .ref qr) (C := "StrongParts") (T := T_4) (N := 4) hx hb hts in_4 hown hK hP 0 rfl rfl 1 (by decide) (hts _ tw_148) (fun _ h9 => h9) rfl d_p1_6_12 ?_
  refine va_getN (D := (dC, dI)) (ci := 1) (v := .int 0) (C := "StrongParts$Groups") (T := T_1) (N := 2) hx hb hts in_1 hown hK hP 1 rfl rfl 1 (by decide) (va_Nw.use rfl (hN _ nw_113)) (fun _ h9 => h9) rfl d_p1_6_15 ?_
  have hP9 := hP.sub (ws' := []) [] rfl
  have hD9 := hD.sub (ws' := []) [] (by decide) rfl
  have hK9 := hK.sub (tys' := []) [] rfl
  exact W.iret (v := 0) hx hb hr (fun t ht hW => ⟨⟨0, (), rfl, rfl, cEnd_mk hP9 hK9 hD9 ht hW⟩, hS.F ht⟩) hS.2.2 d_p1_6_18

set_option maxHeartbeats 4000000 in
set_option maxRecDepth 100000 in
theorem c_X_parts (l : Launch) (dC : Nat → ClassId) (dI : Nat → Nat → Nat) (qx : Nat) (qg : Nat) (qr : Nat) (qk : Nat) (ql : Nat) (ao : Nat) (ai : Nat) (an : Nat) (as_ : Nat) (sz : Nat) : Met l ({ cls := "StrongParts", name := "parts", desc := "()I" } : Jvm.MethodName) (ww ({ cls := "StrongParts", name := "parts", desc := "()I" } : Jvm.MethodName) prog_1_method_16_code 1 (some .int)) ({ frames := 1, cells := 0, slots := 0, locals := 22 }) (va_Pc [.ref qx] (cPre (dC, dI) [(qx, .inr (4, [.ref qg, .ref qr, .ref qk, .ref ql])), (qg, .inr (0, [.ref ao, .ref ai, .ref an, .int 0, .int 0])), (qr, .inr (1, [.ref as_, .int 0]))] [] sz)) (va_Qi (fun (r : Int32) (_ : Unit) => r = 0) (cEnd (dC, dI) [] [] (va_A [(qx, .inr (4, [.ref qg, .ref qr, .ref qk, .ref ql])), (qg, .inr (0, [.ref ao, .ref ai, .ref an, .int 0, .int 0])), (qr, .inr (1, [.ref as_, .int 0]))] sz)) (va_A [(qx, .inr (4, [.ref qg, .ref qr, .ref qk, .ref ql])), (qg, .inr (0, [.ref ao, .ref ai, .ref an, .int 0, .int 0])), (qr, .inr (1, [.ref as_, .int 0]))] sz)) 0 0 (va_A [(qx, .inr (4, [.ref qg, .ref qr, .ref qk, .ref ql])), (qg, .inr (0, [.ref ao, .ref ai, .ref an, .int 0, .int 0])), (qr, .inr (1, [.ref as_, .int 0]))] sz) := by
  refine Met.ofW (cc := prog_1_method_16_code) (maxL := 1) (ret := (some .int)) (by decide) rfl ?_
  intro p e s m args below meth c s₁ B hml hv
  obtain ⟨rfl, hsz, hP, hK, hD0, hN⟩ := hv
  have hx := B.exec
  have hb := B.bytes
  have hr := B.returns
  have hts := ww_hts (atoms_spec (ws := ww ({ cls := "StrongParts", name := "parts", desc := "()I" } : Jvm.MethodName) prog_1_method_16_code 1 (some .int)) B.pre)
  have hown : s.vm.findClass "StrongParts" = some m.cls := findClass_of_methodNamed B.named
  have hlocks := B.notSynchronized
  subst hsz
  have hD := hD0.self (sz := s.heap.size)
  generalize hAe : va_A [(qx, .inr (4, [.ref qg, .ref qr, .ref qk, .ref ql])), (qg, .inr (0, [.ref ao, .ref ai, .ref an, .int 0, .int 0])), (qr, .inr (1, [.ref as_, .int 0]))] s.heap.size = A at hD ⊢
  have hA : ∀ q : Nat, s.heap.size ≤ q → A q := fun q h => by rw [← hAe]; exact Or.inr h
  have hS : va_S A s.heap s.heap [] := va_S.rf
  have hP : va_P (dC, dI) classes [(qx, .inr (4, [.ref qg, .ref qr, .ref qk, .ref ql])), (qg, .inr (0, [.ref ao, .ref ai, .ref an, .int 0, .int 0])), (qr, .inr (1, [.ref as_, .int 0]))] s.heap := hP
  have hl := lv_entry ([.ref qx]) (n := 1) (Nat.le_of_ble_eq_true rfl)
  rw [lg_entry_eq]
  generalize (lg_sl ([.ref qx]) ++ List.replicate (1 - (lg_sl ([.ref qx])).length) Slot.unset).toArray = ls at hl ⊢
  have hl : lv_has ls 1 [(0, .ref qx)] := hl
  refine lv_aload_n hx hb d_p1_16_0 rfl (lv_at hl 0 rfl) ?_
  refine va_get (D := (dC, dI)) (ci := 4) (v := .ref qr) (C := "StrongParts") (T := T_4) (N := 4) hx hb hts in_4 hown hK hP 0 rfl rfl 1 (by decide) (hts _ tw_148) (fun _ h9 => h9) rfl d_p1_16_1 ?_
  refine lv_aload_n hx hb d_p1_16_4 rfl (lv_at hl 0 rfl) ?_
  refine va_get (D := (dC, dI)) (ci := 4) (v := .ref qg) (C := "StrongParts") (T := T_4) (N := 4) hx hb hts in_4 hown hK hP 0 rfl rfl 0 (by decide) (hts _ tw_147) (fun _ h9 => h9) rfl d_p1_16_5 ?_
  have hPc := hP.sub (ws' := [(qr, .inr (1, [.ref as_, .int 0])), (qg, .inr (0, [.ref ao, .ref ai, .ref an, .int 0, .int 0]))]) [2, 1] rfl
  have hDc := hD.sub (ws' := [(qr, .inr (1, [.ref as_, .int 0])), (qg, .inr (0, [.ref ao, .ref ai, .ref an, .int 0, .int 0]))]) [2, 1] (by decide) rfl
  have hKc := hK.sub (tys' := []) [] rfl
  have hFc := va_free (wc := [(qr, .inr (1, [.ref as_, .int 0])), (qg, .inr (0, [.ref ao, .ref ai, .ref an, .int 0, .int 0]))]) hD hS hA [2, 1] rfl
  refine va_callv (va_runVN (As := [.ref qg]) (rest := []) ⟨hx, hb, hml, hown, hts⟩ (c_GR_takeParts l dC dI qr qg as_ ao ai an s.heap.size) (⟨va_cnB 1 hts (gd_371) rfl rfl rfl (hN _ nw_368) (hts _ tw_57) (by decide +kernel) ⟨Nat.le_of_ble_eq_true rfl, Nat.le_of_ble_eq_true rfl⟩, hts _ tw_370, hts _ tw_25⟩) ⟨cPre_blind, va_recv hKc hPc (ci := 1) (q0 := 0) rfl rfl, cPre_pre hPc hKc hDc hN⟩ rfl rfl hl.1 rfl (lv_room (Nat.le_of_ble_eq_true rfl)) d_p1_16_8 ⟨Nat.le_of_ble_eq_true rfl, Nat.le_of_ble_eq_true rfl⟩) hS (fun q _ h => hFc q h) hFc (fun u t H1 locs ht hvm hw hB hz1 hk1 hS => ?_)
  obtain ⟨hP1, hK1, hD1⟩ := hB
  rw [ht] at hP1
  obtain ⟨hP, hD⟩ := va_join (wr := [(qx, .inr (4, [.ref qg, .ref qr, .ref qk, .ref ql]))]) (w1 := [(qr, .inr (1, [.ref as_, .int 0])), (qg, .inr (0, [.ref ao, .ref ai, .ref an, .int 0, .int 0]))]) hP hD [2, 1] [0] rfl rfl (by decide) (by decide) hk1 hFc hP1 hD1
  generalize H1 = H at hP hS ⊢
  have hP : va_P (dC, dI) classes [(qx, .inr (4, [.ref qg, .ref qr, .ref qk, .ref ql])), (qr, .inr (1, [.ref as_, .int 0])), (qg, .inr (0, [.ref ao, .ref ai, .ref an, .int 0, .int 0]))] H := hP
  have hD : va_D A [(qx, .inr (4, [.ref qg, .ref qr, .ref qk, .ref ql])), (qr, .inr (1, [.ref as_, .int 0])), (qg, .inr (0, [.ref ao, .ref ai, .ref an, .int 0, .int 0]))] := hD
  refine lv_aload_n hx hb d_p1_16_11 rfl (lv_at hl 0 rfl) ?_
  refine va_get (D := (dC, dI)) (ci := 4) (v := .ref qr) (C := "StrongParts") (T := T_4) (N := 4) hx hb hts in_4 hown hK hP 0 rfl rfl 1 (by decide) (hts _ tw_148) (fun _ h9 => h9) rfl d_p1_16_12 ?_
  refine va_getN (D := (dC, dI)) (ci := 1) (v := .int 0) (C := "StrongParts$Groups") (T := T_1) (N := 2) hx hb hts in_1 hown hK hP 1 rfl rfl 1 (by decide) (va_Nw.use rfl (hN _ nw_113)) (fun _ h9 => h9) rfl d_p1_16_15 ?_
  have hP9 := hP.sub (ws' := []) [] rfl
  have hD9 := hD.sub (ws' := []) [] (by decide) rfl
  have hK9 := hK.sub (tys' := []) [] rfl
  exact W.iret (v := 0) hx hb hr (fun t ht hW => ⟨⟨0, (), rfl, rfl, cEnd_mk hP9 hK9 hD9 ht hW⟩, hS.F ht⟩) hS.2.2 d_p1_16_18

set_option maxHeartbeats 4000000 in
set_option maxRecDepth 100000 in
theorem c_X_members (l : Launch) (dC : Nat → ClassId) (dI : Nat → Nat → Nat) (qx : Nat) (qg : Nat) (qr : Nat) (qk : Nat) (ql : Nat) (ao : Nat) (ai : Nat) (an : Nat) (as_ : Nat) (p0 : Int32) (sz : Nat) : Met l ({ cls := "StrongParts", name := "members", desc := "(I)I" } : Jvm.MethodName) (ww ({ cls := "StrongParts", name := "members", desc := "(I)I" } : Jvm.MethodName) prog_1_method_8_code 2 (some .int)) ({ frames := 1, cells := 0, slots := 0, locals := 22 }) (va_Pc [.ref qx, .int p0] (cPre (dC, dI) [(qx, .inr (4, [.ref qg, .ref qr, .ref qk, .ref ql])), (qg, .inr (0, [.ref ao, .ref ai, .ref an, .int 0, .int 0])), (qr, .inr (1, [.ref as_, .int 0]))] [] sz)) (va_Qi (fun (r : Int32) (_ : Unit) => r = (-2)) (cEnd (dC, dI) [] [] (va_A [(qx, .inr (4, [.ref qg, .ref qr, .ref qk, .ref ql])), (qg, .inr (0, [.ref ao, .ref ai, .ref an, .int 0, .int 0])), (qr, .inr (1, [.ref as_, .int 0]))] sz)) (va_A [(qx, .inr (4, [.ref qg, .ref qr, .ref qk, .ref ql])), (qg, .inr (0, [.ref ao, .ref ai, .ref an, .int 0, .int 0])), (qr, .inr (1, [.ref as_, .int 0]))] sz)) 0 0 (va_A [(qx, .inr (4, [.ref qg, .ref qr, .ref qk, .ref ql])), (qg, .inr (0, [.ref ao, .ref ai, .ref an, .int 0, .int 0])), (qr, .inr (1, [.ref as_, .int 0]))] sz) := by
  refine Met.ofW (cc := prog_1_method_8_code) (maxL := 2) (ret := (some .int)) (by decide) rfl ?_
  intro p e s m args below meth c s₁ B hml hv
  obtain ⟨rfl, hsz, hP, hK, hD0, hN⟩ := hv
  have hx := B.exec
  have hb := B.bytes
  have hr := B.returns
  have hts := ww_hts (atoms_spec (ws := ww ({ cls := "StrongParts", name := "members", desc := "(I)I" } : Jvm.MethodName) prog_1_method_8_code 2 (some .int)) B.pre)
  have hown : s.vm.findClass "StrongParts" = some m.cls := findClass_of_methodNamed B.named
  have hlocks := B.notSynchronized
  subst hsz
  have hD := hD0.self (sz := s.heap.size)
  generalize hAe : va_A [(qx, .inr (4, [.ref qg, .ref qr, .ref qk, .ref ql])), (qg, .inr (0, [.ref ao, .ref ai, .ref an, .int 0, .int 0])), (qr, .inr (1, [.ref as_, .int 0]))] s.heap.size = A at hD ⊢
  have hA : ∀ q : Nat, s.heap.size ≤ q → A q := fun q h => by rw [← hAe]; exact Or.inr h
  have hS : va_S A s.heap s.heap [] := va_S.rf
  have hP : va_P (dC, dI) classes [(qx, .inr (4, [.ref qg, .ref qr, .ref qk, .ref ql])), (qg, .inr (0, [.ref ao, .ref ai, .ref an, .int 0, .int 0])), (qr, .inr (1, [.ref as_, .int 0]))] s.heap := hP
  have hl := lv_entry ([.ref qx, .int p0]) (n := 2) (Nat.le_of_ble_eq_true rfl)
  rw [lg_entry_eq]
  generalize (lg_sl ([.ref qx, .int p0]) ++ List.replicate (2 - (lg_sl ([.ref qx, .int p0])).length) Slot.unset).toArray = ls at hl ⊢
  have hl : lv_has ls 2 [(0, .ref qx), (1, .int p0)] := hl
  refine lv_aload_n hx hb d_p1_8_0 rfl (lv_at hl 0 rfl) ?_
  refine va_get (D := (dC, dI)) (ci := 4) (v := .ref qr) (C := "StrongParts") (T := T_4) (N := 4) hx hb hts in_4 hown hK hP 0 rfl rfl 1 (by decide) (hts _ tw_148) (fun _ h9 => h9) rfl d_p1_8_1 ?_
  refine lv_aload_n hx hb d_p1_8_4 rfl (lv_at hl 0 rfl) ?_
  refine va_get (D := (dC, dI)) (ci := 4) (v := .ref qg) (C := "StrongParts") (T := T_4) (N := 4) hx hb hts in_4 hown hK hP 0 rfl rfl 0 (by decide) (hts _ tw_147) (fun _ h9 => h9) rfl d_p1_8_5 ?_
  have hPc := hP.sub (ws' := [(qr, .inr (1, [.ref as_, .int 0])), (qg, .inr (0, [.ref ao, .ref ai, .ref an, .int 0, .int 0]))]) [2, 1] rfl
  have hDc := hD.sub (ws' := [(qr, .inr (1, [.ref as_, .int 0])), (qg, .inr (0, [.ref ao, .ref ai, .ref an, .int 0, .int 0]))]) [2, 1] (by decide) rfl
  have hKc := hK.sub (tys' := []) [] rfl
  have hFc := va_free (wc := [(qr, .inr (1, [.ref as_, .int 0])), (qg, .inr (0, [.ref ao, .ref ai, .ref an, .int 0, .int 0]))]) hD hS hA [2, 1] rfl
  refine va_callv (va_runVN (As := [.ref qg]) (rest := []) ⟨hx, hb, hml, hown, hts⟩ (c_GR_takeKnots l dC dI qr qg as_ ao ai an s.heap.size) (⟨va_cnB 1 hts (gd_227) rfl rfl rfl (hN _ nw_224) (hts _ tw_57) (by decide +kernel) ⟨Nat.le_of_ble_eq_true rfl, Nat.le_of_ble_eq_true rfl⟩, hts _ tw_226, hts _ tw_7⟩) ⟨cPre_blind, va_recv hKc hPc (ci := 1) (q0 := 0) rfl rfl, cPre_pre hPc hKc hDc hN⟩ rfl rfl hl.1 rfl (lv_room (Nat.le_of_ble_eq_true rfl)) d_p1_8_8 ⟨Nat.le_of_ble_eq_true rfl, Nat.le_of_ble_eq_true rfl⟩) hS (fun q _ h => hFc q h) hFc (fun u t H1 locs ht hvm hw hB hz1 hk1 hS => ?_)
  obtain ⟨hP1, hK1, hD1⟩ := hB
  rw [ht] at hP1
  obtain ⟨hP, hD⟩ := va_join (wr := [(qx, .inr (4, [.ref qg, .ref qr, .ref qk, .ref ql]))]) (w1 := [(qr, .inr (1, [.ref as_, .int 0])), (qg, .inr (0, [.ref ao, .ref ai, .ref an, .int 0, .int 0]))]) hP hD [2, 1] [0] rfl rfl (by decide) (by decide) hk1 hFc hP1 hD1
  generalize H1 = H at hP hS ⊢
  have hP : va_P (dC, dI) classes [(qx, .inr (4, [.ref qg, .ref qr, .ref qk, .ref ql])), (qr, .inr (1, [.ref as_, .int 0])), (qg, .inr (0, [.ref ao, .ref ai, .ref an, .int 0, .int 0]))] H := hP
  have hD : va_D A [(qx, .inr (4, [.ref qg, .ref qr, .ref qk, .ref ql])), (qr, .inr (1, [.ref as_, .int 0])), (qg, .inr (0, [.ref ao, .ref ai, .ref an, .int 0, .int 0]))] := hD
  refine lv_iload_n hx hb d_p1_8_11 rfl (lv_at hl 1 rfl) ?_
  refine lv_if_lt (tgt := 26) hx hb d_p1_8_12 (by decide) (fun c_12 => ?_) (fun c_12 => ?_)
  · refine lv_bipush (v := (-2)) hx hb d_p1_8_26 (by decide) ?_
    have hP9 := hP.sub (ws' := []) [] rfl
    have hD9 := hD.sub (ws' := []) [] (by decide) rfl
    have hK9 := hK.sub (tys' := []) [] rfl
    exact W.iret (v := (-2)) hx hb hr (fun t ht hW => ⟨⟨(-2), (), rfl, rfl, cEnd_mk hP9 hK9 hD9 ht hW⟩, hS.F ht⟩) hS.2.2 d_p1_8_28
  · refine lv_iload_n hx hb d_p1_8_15 rfl (lv_at hl 1 rfl) ?_
    refine lv_aload_n hx hb d_p1_8_16 rfl (lv_at hl 0 rfl) ?_
    refine va_get (D := (dC, dI)) (ci := 4) (v := .ref qr) (C := "StrongParts") (T := T_4) (N := 4) hx hb hts in_4 hown hK hP 0 rfl rfl 1 (by decide) (hts _ tw_148) (fun _ h9 => h9) rfl d_p1_8_17 ?_
    refine va_getN (D := (dC, dI)) (ci := 1) (v := .int 0) (C := "StrongParts$Groups") (T := T_1) (N := 2) hx hb hts in_1 hown hK hP 1 rfl rfl 1 (by decide) (va_Nw.use rfl (hN _ nw_113)) (fun _ h9 => h9) rfl d_p1_8_20 ?_
    refine lv_icmp_lt (tgt := 29) hx hb d_p1_8_23 (by decide) (fun c_23 => absurd c_23 c_12) (fun c_23 => ?_)
    refine lv_bipush (v := (-2)) hx hb d_p1_8_26 (by decide) ?_
    have hP9 := hP.sub (ws' := []) [] rfl
    have hD9 := hD.sub (ws' := []) [] (by decide) rfl
    have hK9 := hK.sub (tys' := []) [] rfl
    exact W.iret (v := (-2)) hx hb hr (fun t ht hW => ⟨⟨(-2), (), rfl, rfl, cEnd_mk hP9 hK9 hD9 ht hW⟩, hS.F ht⟩) hS.2.2 d_p1_8_28
