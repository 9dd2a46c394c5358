set_option maxHeartbeats 4000000 in
set_option maxRecDepth 100000 in
theorem c_X_order (l : Launch) (dC : Nat → ClassId) (dI : Nat → Nat → Nat) (qx : Nat) (qg : Nat) (qr : Nat) (qk : Nat) (ql : Nat) (ao : Nat) (ai : Nat) (an : Nat) (as_ : Nat) (ab : Nat) (ac : Nat) (p0 : Int32) (sz : Nat) : Met l ({ cls := "StrongParts", name := "order", desc := "(I)I" } : Jvm.MethodName) (ww ({ cls := "StrongParts", name := "order", desc := "(I)I" } : Jvm.MethodName) prog_1_method_9_code 2 (some .int)) ({ frames := 3, cells := 0, slots := 0, locals := 67 }) (va_Pc [.ref qx, .int p0] (cPre (dC, dI) [(qx, .inr (4, [.ref qg, .ref qr, .ref qk, .ref ql])), (qg, .inr (0, [.ref ao, .ref ai, .ref an, .int 0, .int 0])), (qr, .inr (1, [.ref as_, .int 0])), (qk, .inr (2, [.ref ab, .int 0, .ref ac]))] [] sz)) (va_Qi (fun (r : Int32) (_ : Unit) => r = (-2)) (cEnd (dC, dI) [] [] (va_A [(qx, .inr (4, [.ref qg, .ref qr, .ref qk, .ref ql])), (qg, .inr (0, [.ref ao, .ref ai, .ref an, .int 0, .int 0])), (qr, .inr (1, [.ref as_, .int 0])), (qk, .inr (2, [.ref ab, .int 0, .ref ac]))] sz)) (va_A [(qx, .inr (4, [.ref qg, .ref qr, .ref qk, .ref ql])), (qg, .inr (0, [.ref ao, .ref ai, .ref an, .int 0, .int 0])), (qr, .inr (1, [.ref as_, .int 0])), (qk, .inr (2, [.ref ab, .int 0, .ref ac]))] sz)) 0 0 (va_A [(qx, .inr (4, [.ref qg, .ref qr, .ref qk, .ref ql])), (qg, .inr (0, [.ref ao, .ref ai, .ref an, .int 0, .int 0])), (qr, .inr (1, [.ref as_, .int 0])), (qk, .inr (2, [.ref ab, .int 0, .ref ac]))] sz) := by
  refine Met.ofW (cc := prog_1_method_9_code) (maxL := 2) (ret := (some .int)) (by decide) rfl ?_
  intro p e s m args below meth c s₁ B hml hv
  obtain ⟨rfl, hsz, hP, hK, hD0, hN⟩ := hv
  have hx := B.exec
  have hb := B.bytes
  have hr := B.returns
  have hts := ww_hts (atoms_spec (ws := ww ({ cls := "StrongParts", name := "order", desc := "(I)I" } : Jvm.MethodName) prog_1_method_9_code 2 (some .int)) B.pre)
  have hown : s.vm.findClass "StrongParts" = some m.cls := findClass_of_methodNamed B.named
  have hlocks := B.notSynchronized
  subst hsz
  have hD := hD0.self (sz := s.heap.size)
  generalize hAe : va_A [(qx, .inr (4, [.ref qg, .ref qr, .ref qk, .ref ql])), (qg, .inr (0, [.ref ao, .ref ai, .ref an, .int 0, .int 0])), (qr, .inr (1, [.ref as_, .int 0])), (qk, .inr (2, [.ref ab, .int 0, .ref ac]))] s.heap.size = A at hD ⊢
  have hA : ∀ q : Nat, s.heap.size ≤ q → A q := fun q h => by rw [← hAe]; exact Or.inr h
  have hS : va_S A s.heap s.heap [] := va_S.rf
  have hP : va_P (dC, dI) classes [(qx, .inr (4, [.ref qg, .ref qr, .ref qk, .ref ql])), (qg, .inr (0, [.ref ao, .ref ai, .ref an, .int 0, .int 0])), (qr, .inr (1, [.ref as_, .int 0])), (qk, .inr (2, [.ref ab, .int 0, .ref ac]))] s.heap := hP
  have hl := lv_entry ([.ref qx, .int p0]) (n := 2) (Nat.le_of_ble_eq_true rfl)
  rw [lg_entry_eq]
  generalize (lg_sl ([.ref qx, .int p0]) ++ List.replicate (2 - (lg_sl ([.ref qx, .int p0])).length) Slot.unset).toArray = ls at hl ⊢
  have hl : lv_has ls 2 [(0, .ref qx), (1, .int p0)] := hl
  refine lv_aload_n hx hb d_p1_9_0 rfl (lv_at hl 0 rfl) ?_
  have hPc := hP.sub (ws' := [(qx, .inr (4, [.ref qg, .ref qr, .ref qk, .ref ql])), (qg, .inr (0, [.ref ao, .ref ai, .ref an, .int 0, .int 0])), (qr, .inr (1, [.ref as_, .int 0])), (qk, .inr (2, [.ref ab, .int 0, .ref ac]))]) [0, 1, 2, 3] rfl
  have hDc := hD.sub (ws' := [(qx, .inr (4, [.ref qg, .ref qr, .ref qk, .ref ql])), (qg, .inr (0, [.ref ao, .ref ai, .ref an, .int 0, .int 0])), (qr, .inr (1, [.ref as_, .int 0])), (qk, .inr (2, [.ref ab, .int 0, .ref ac]))]) [0, 1, 2, 3] (by decide) rfl
  have hKc := hK.sub (tys' := []) [] rfl
  have hFc := va_free (wc := [(qx, .inr (4, [.ref qg, .ref qr, .ref qk, .ref ql])), (qg, .inr (0, [.ref ao, .ref ai, .ref an, .int 0, .int 0])), (qr, .inr (1, [.ref as_, .int 0])), (qk, .inr (2, [.ref ab, .int 0, .ref ac]))]) hD hS hA [0, 1, 2, 3] rfl
  refine va_callv (va_runV (As := []) (rest := []) ⟨hx, hb, hml, hown, hts⟩ (c_X_orderKnots l dC dI qx qg qr qk ql ao ai an as_ ab ac s.heap.size) (cwV 0 hts (gV gd_277 tw_274 tw_276 tw_13 tw_55) rfl rfl rfl (by decide +kernel) ⟨Nat.le_of_ble_eq_true rfl, Nat.le_of_ble_eq_true rfl⟩) ⟨cPre_blind, va_recv hKc hPc (ci := 4) (q0 := 0) rfl rfl, cPre_pre hPc hKc hDc hN⟩ rfl rfl hl.1 rfl (lv_room (Nat.le_of_ble_eq_true rfl)) d_p1_9_1 ⟨Nat.le_of_ble_eq_true rfl, Nat.le_of_ble_eq_true rfl⟩) hS (fun q _ h => hFc q h) hFc (fun u t H1 locs ht hvm hw hB hz1 hk1 hS => ?_)
  obtain ⟨hP1, hK1, hD1⟩ := hB
  rw [ht] at hP1
  obtain ⟨hP, hD⟩ := va_join (wr := []) (w1 := [(qx, .inr (4, [.ref qg, .ref qr, .ref qk, .ref ql])), (qg, .inr (0, [.ref ao, .ref ai, .ref an, .int 0, .int 0])), (qr, .inr (1, [.ref as_, .int 0])), (qk, .inr (2, [.ref ab, .int 0, .ref ac]))]) hP hD [0, 1, 2, 3] [] rfl rfl (by decide) (by decide) hk1 hFc hP1 hD1
  generalize H1 = H at hP hS ⊢
  have hP : va_P (dC, dI) classes [(qx, .inr (4, [.ref qg, .ref qr, .ref qk, .ref ql])), (qg, .inr (0, [.ref ao, .ref ai, .ref an, .int 0, .int 0])), (qr, .inr (1, [.ref as_, .int 0])), (qk, .inr (2, [.ref ab, .int 0, .ref ac]))] H := hP
  have hD : va_D A [(qx, .inr (4, [.ref qg, .ref qr, .ref qk, .ref ql])), (qg, .inr (0, [.ref ao, .ref ai, .ref an, .int 0, .int 0])), (qr, .inr (1, [.ref as_, .int 0])), (qk, .inr (2, [.ref ab, .int 0, .ref ac]))] := hD
  refine lv_iload_n hx hb d_p1_9_4 rfl (lv_at hl 1 rfl) ?_
  refine lv_if_lt (tgt := 19) hx hb d_p1_9_5 (by decide) (fun c_5 => ?_) (fun c_5 => ?_)
  · refine lv_bipush (v := (-2)) hx hb d_p1_9_19 (by decide) ?_
    have hP9 := hP.sub (ws' := []) [] rfl
    have hD9 := hD.sub (ws' := []) [] (by decide) rfl
    have hK9 := hK.sub (tys' := []) [] rfl
    exact W.iret (v := (-2)) hx hb hr (fun t ht hW => ⟨⟨(-2), (), rfl, rfl, cEnd_mk hP9 hK9 hD9 ht hW⟩, hS.F ht⟩) hS.2.2 d_p1_9_21
  · refine lv_iload_n hx hb d_p1_9_8 rfl (lv_at hl 1 rfl) ?_
    refine lv_aload_n hx hb d_p1_9_9 rfl (lv_at hl 0 rfl) ?_
    refine va_get (D := (dC, dI)) (ci := 4) (v := .ref qk) (C := "StrongParts") (T := T_4) (N := 4) hx hb hts in_4 hown hK hP 0 rfl rfl 2 (by decide) (hts _ tw_149) (fun _ h9 => h9) rfl d_p1_9_10 ?_
    refine va_getN (D := (dC, dI)) (ci := 2) (v := .int 0) (C := "StrongParts$KnotOrder") (T := T_2) (N := 3) hx hb hts in_2 hown hK hP 3 rfl rfl 1 (by decide) (va_Nw.use rfl (hN _ nw_127)) (fun _ h9 => h9) rfl d_p1_9_13 ?_
    refine lv_icmp_lt (tgt := 22) hx hb d_p1_9_16 (by decide) (fun c_16 => absurd c_16 c_5) (fun c_16 => ?_)
    refine lv_bipush (v := (-2)) hx hb d_p1_9_19 (by decide) ?_
    have hP9 := hP.sub (ws' := []) [] rfl
    have hD9 := hD.sub (ws' := []) [] (by decide) rfl
    have hK9 := hK.sub (tys' := []) [] rfl
    exact W.iret (v := (-2)) hx hb hr (fun t ht hW => ⟨⟨(-2), (), rfl, rfl, cEnd_mk hP9 hK9 hD9 ht hW⟩, hS.F ht⟩) hS.2.2 d_p1_9_21

set_option maxHeartbeats 4000000 in
set_option maxRecDepth 100000 in
theorem c_X_orders (l : Launch) (dC : Nat → ClassId) (dI : Nat → Nat → Nat) (qx : Nat) (qg : Nat) (qr : Nat) (qk : Nat) (ql : Nat) (ao : Nat) (ai : Nat) (an : Nat) (as_ : Nat) (ab : Nat) (ac : Nat) (kc : ClassId) (fc : Nat → Int64) (sz : Nat) : Met l ({ cls := "StrongParts", name := "orders", desc := "()J" } : Jvm.MethodName) (ww ({ cls := "StrongParts", name := "orders", desc := "()J" } : Jvm.MethodName) prog_1_method_10_code 1 (some .long)) ({ frames := 3, cells := 0, slots := 0, locals := 67 }) (va_Pc [.ref qx] (cPre (dC, dI) [(qx, .inr (4, [.ref qg, .ref qr, .ref qk, .ref ql])), (qg, .inr (0, [.ref ao, .ref ai, .ref an, .int 0, .int 0])), (qr, .inr (1, [.ref as_, .int 0])), (qk, .inr (2, [.ref ab, .int 0, .ref ac])), (ac, .inl (kc, 1, .inr (.inl fc)))] [(kc, .long)] sz)) (va_Ql (fun (r : Int64) (_ : Unit) => r = 1) (cEnd (dC, dI) [] [] (va_A [(qx, .inr (4, [.ref qg, .ref qr, .ref qk, .ref ql])), (qg, .inr (0, [.ref ao, .ref ai, .ref an, .int 0, .int 0])), (qr, .inr (1, [.ref as_, .int 0])), (qk, .inr (2, [.ref ab, .int 0, .ref ac])), (ac, .inl (kc, 1, .inr (.inl fc)))] sz)) (va_A [(qx, .inr (4, [.ref qg, .ref qr, .ref qk, .ref ql])), (qg, .inr (0, [.ref ao, .ref ai, .ref an, .int 0, .int 0])), (qr, .inr (1, [.ref as_, .int 0])), (qk, .inr (2, [.ref ab, .int 0, .ref ac])), (ac, .inl (kc, 1, .inr (.inl fc)))] sz)) 0 0 (va_A [(qx, .inr (4, [.ref qg, .ref qr, .ref qk, .ref ql])), (qg, .inr (0, [.ref ao, .ref ai, .ref an, .int 0, .int 0])), (qr, .inr (1, [.ref as_, .int 0])), (qk, .inr (2, [.ref ab, .int 0, .ref ac])), (ac, .inl (kc, 1, .inr (.inl fc)))] sz) := by
  refine Met.ofW (cc := prog_1_method_10_code) (maxL := 1) (ret := (some .long)) (by decide) rfl ?_
  intro p e s m args below meth c s₁ B hml hv
  obtain ⟨rfl, hsz, hP, hK, hD0, hN⟩ := hv
  have hx := B.exec
  have hb := B.bytes
  have hr := B.returns
  have hts := ww_hts (atoms_spec (ws := ww ({ cls := "StrongParts", name := "orders", desc := "()J" } : Jvm.MethodName) prog_1_method_10_code 1 (some .long)) B.pre)
  have hown : s.vm.findClass "StrongParts" = some m.cls := findClass_of_methodNamed B.named
  have hlocks := B.notSynchronized
  subst hsz
  have hD := hD0.self (sz := s.heap.size)
  generalize hAe : va_A [(qx, .inr (4, [.ref qg, .ref qr, .ref qk, .ref ql])), (qg, .inr (0, [.ref ao, .ref ai, .ref an, .int 0, .int 0])), (qr, .inr (1, [.ref as_, .int 0])), (qk, .inr (2, [.ref ab, .int 0, .ref ac])), (ac, .inl (kc, 1, .inr (.inl fc)))] s.heap.size = A at hD ⊢
  have hA : ∀ q : Nat, s.heap.size ≤ q → A q := fun q h => by rw [← hAe]; exact Or.inr h
  have hS : va_S A s.heap s.heap [] := va_S.rf
  have hP : va_P (dC, dI) classes [(qx, .inr (4, [.ref qg, .ref qr, .ref qk, .ref ql])), (qg, .inr (0, [.ref ao, .ref ai, .ref an, .int 0, .int 0])), (qr, .inr (1, [.ref as_, .int 0])), (qk, .inr (2, [.ref ab, .int 0, .ref ac])), (ac, .inl (kc, 1, .inr (.inl fc)))] s.heap := hP
  have hl := lv_entry ([.ref qx]) (n := 1) (Nat.le_of_ble_eq_true rfl)
  rw [lg_entry_eq]
  generalize (lg_sl ([.ref qx]) ++ List.replicate (1 - (lg_sl ([.ref qx])).length) Slot.unset).toArray = ls at hl ⊢
  have hl : lv_has ls 1 [(0, .ref qx)] := hl
  refine lv_aload_n hx hb d_p1_10_0 rfl (lv_at hl 0 rfl) ?_
  have hPc := hP.sub (ws' := [(qx, .inr (4, [.ref qg, .ref qr, .ref qk, .ref ql])), (qg, .inr (0, [.ref ao, .ref ai, .ref an, .int 0, .int 0])), (qr, .inr (1, [.ref as_, .int 0])), (qk, .inr (2, [.ref ab, .int 0, .ref ac]))]) [0, 1, 2, 3] rfl
  have hDc := hD.sub (ws' := [(qx, .inr (4, [.ref qg, .ref qr, .ref qk, .ref ql])), (qg, .inr (0, [.ref ao, .ref ai, .ref an, .int 0, .int 0])), (qr, .inr (1, [.ref as_, .int 0])), (qk, .inr (2, [.ref ab, .int 0, .ref ac]))]) [0, 1, 2, 3] (by decide) rfl
  have hKc := hK.sub (tys' := []) [] rfl
  have hFc := va_free (wc := [(qx, .inr (4, [.ref qg, .ref qr, .ref qk, .ref ql])), (qg, .inr (0, [.ref ao, .ref ai, .ref an, .int 0, .int 0])), (qr, .inr (1, [.ref as_, .int 0])), (qk, .inr (2, [.ref ab, .int 0, .ref ac]))]) hD hS hA [0, 1, 2, 3] rfl
  refine va_callv (va_runV (As := []) (rest := []) ⟨hx, hb, hml, hown, hts⟩ (c_X_orderKnots l dC dI qx qg qr qk ql ao ai an as_ ab ac s.heap.size) (cwV 0 hts (gV gd_277 tw_274 tw_276 tw_13 tw_55) rfl rfl rfl (by decide +kernel) ⟨Nat.le_of_ble_eq_true rfl, Nat.le_of_ble_eq_true rfl⟩) ⟨cPre_blind, va_recv hKc hPc (ci := 4) (q0 := 0) rfl rfl, cPre_pre hPc hKc hDc hN⟩ rfl rfl hl.1 rfl (lv_room (Nat.le_of_ble_eq_true rfl)) d_p1_10_1 ⟨Nat.le_of_ble_eq_true rfl, Nat.le_of_ble_eq_true rfl⟩) hS (fun q _ h => hFc q h) hFc (fun u t H1 locs ht hvm hw hB hz1 hk1 hS => ?_)
  obtain ⟨hP1, hK1, hD1⟩ := hB
  rw [ht] at hP1
  obtain ⟨hP, hD⟩ := va_join (wr := [(ac, .inl (kc, 1, .inr (.inl fc)))]) (w1 := [(qx, .inr (4, [.ref qg, .ref qr, .ref qk, .ref ql])), (qg, .inr (0, [.ref ao, .ref ai, .ref an, .int 0, .int 0])), (qr, .inr (1, [.ref as_, .int 0])), (qk, .inr (2, [.ref ab, .int 0, .ref ac]))]) hP hD [0, 1, 2, 3] [4] rfl rfl (by decide) (by decide) hk1 hFc hP1 hD1
  generalize H1 = H at hP hS ⊢
  have hP : va_P (dC, dI) classes [(ac, .inl (kc, 1, .inr (.inl fc))), (qx, .inr (4, [.ref qg, .ref qr, .ref qk, .ref ql])), (qg, .inr (0, [.ref ao, .ref ai, .ref an, .int 0, .int 0])), (qr, .inr (1, [.ref as_, .int 0])), (qk, .inr (2, [.ref ab, .int 0, .ref ac]))] H := hP
  have hD : va_D A [(ac, .inl (kc, 1, .inr (.inl fc))), (qx, .inr (4, [.ref qg, .ref qr, .ref qk, .ref ql])), (qg, .inr (0, [.ref ao, .ref ai, .ref an, .int 0, .int 0])), (qr, .inr (1, [.ref as_, .int 0])), (qk, .inr (2, [.ref ab, .int 0, .ref ac]))] := hD
  refine lv_aload_n hx hb d_p1_10_4 rfl (lv_at hl 0 rfl) ?_
  refine va_get (D := (dC, dI)) (ci := 4) (v := .ref qk) (C := "StrongParts") (T := T_4) (N := 4) hx hb hts in_4 hown hK hP 1 rfl rfl 2 (by decide) (hts _ tw_149) (fun _ h9 => h9) rfl d_p1_10_5 ?_
  have hPc := hP.sub (ws' := [(qk, .inr (2, [.ref ab, .int 0, .ref ac])), (ac, .inl (kc, 1, .inr (.inl fc)))]) [4, 0] rfl
  have hDc := hD.sub (ws' := [(qk, .inr (2, [.ref ab, .int 0, .ref ac])), (ac, .inl (kc, 1, .inr (.inl fc)))]) [4, 0] (by decide) rfl
  have hKc := hK.sub (tys' := [(kc, .long)]) [0] rfl
  have hFc := va_free (wc := [(qk, .inr (2, [.ref ab, .int 0, .ref ac])), (ac, .inl (kc, 1, .inr (.inl fc)))]) hD hS hA [4, 0] rfl
  refine va_calll (va_runVN (As := []) (rest := []) ⟨hx, hb, hml, hown, hts⟩ (c_K_countAll l dC dI qk ab ac kc fc H.size) (⟨va_cnB 0 hts (gd_310) rfl rfl rfl (hN _ nw_307) (hts _ tw_58) (by decide +kernel) ⟨Nat.le_of_ble_eq_true rfl, Nat.le_of_ble_eq_true rfl⟩, hts _ tw_309, hts _ tw_18⟩) ⟨cPre_blind, va_recv hKc hPc (ci := 2) (q0 := 0) rfl rfl, cPre_pre hPc hKc hDc hN⟩ rfl rfl hl.1 rfl (lv_room (Nat.le_of_ble_eq_true rfl)) d_p1_10_8 ⟨Nat.le_of_ble_eq_true rfl, Nat.le_of_ble_eq_true rfl⟩) hS (fun q _ h => hFc q h) hFc (fun r_2 u t H1 locs ht hvm hw hB hz1 hk1 hS => ?_)
  obtain ⟨hP1, hK1, hD1⟩ := hB
  rw [ht] at hP1
  obtain ⟨hP, hD⟩ := va_join (wr := [(qx, .inr (4, [.ref qg, .ref qr, .ref qk, .ref ql])), (qg, .inr (0, [.ref ao, .ref ai, .ref an, .int 0, .int 0])), (qr, .inr (1, [.ref as_, .int 0]))]) (w1 := []) hP hD [4, 0] [1, 2, 3] rfl rfl (by decide) (by decide) hk1 hFc hP1 hD1
  generalize H1 = H at hP hS ⊢
  have hP : va_P (dC, dI) classes [(qx, .inr (4, [.ref qg, .ref qr, .ref qk, .ref ql])), (qg, .inr (0, [.ref ao, .ref ai, .ref an, .int 0, .int 0])), (qr, .inr (1, [.ref as_, .int 0]))] H := hP
  have hD : va_D A [(qx, .inr (4, [.ref qg, .ref qr, .ref qk, .ref ql])), (qg, .inr (0, [.ref ao, .ref ai, .ref an, .int 0, .int 0])), (qr, .inr (1, [.ref as_, .int 0]))] := hD
  obtain rfl : r_2 = (1 : Int64) := hw
  have hP9 := hP.sub (ws' := []) [] rfl
  have hD9 := hD.sub (ws' := []) [] (by decide) rfl
  have hK9 := hK.sub (tys' := []) [] rfl
  exact W.lret (v := 1) hx hb hr (fun t ht hW => ⟨⟨1, (), rfl, rfl, cEnd_mk hP9 hK9 hD9 ht hW⟩, hS.F ht⟩) hS.2.2 d_p1_10_11

set_option maxHeartbeats 4000000 in
set_option maxRecDepth 100000 in
theorem c_X_depth (l : Launch) (dC : Nat → ClassId) (dI : Nat → Nat → Nat) (qx : Nat) (qg : Nat) (qr : Nat) (qk : Nat) (ql : Nat) (ao : Nat) (ai : Nat) (an : Nat) (as_ : Nat) (ab : Nat) (ac : Nat) (sz : Nat) : Met l ({ cls := "StrongParts", name := "depth", desc := "()I" } : Jvm.MethodName) (ww ({ cls := "StrongParts", name := "depth", desc := "()I" } : Jvm.MethodName) prog_1_method_11_code 1 (some .int)) ({ frames := 3, cells := 0, slots := 0, locals := 67 }) (va_Pc [.ref qx] (cPre (dC, dI) [(qx, .inr (4, [.ref qg, .ref qr, .ref qk, .ref ql])), (qg, .inr (0, [.ref ao, .ref ai, .ref an, .int 0, .int 0])), (qr, .inr (1, [.ref as_, .int 0])), (qk, .inr (2, [.ref ab, .int 0, .ref ac]))] [] sz)) (va_Qi (fun (r : Int32) (_ : Unit) => r = 0) (cEnd (dC, dI) [] [] (va_A [(qx, .inr (4, [.ref qg, .ref qr, .ref qk, .ref ql])), (qg, .inr (0, [.ref ao, .ref ai, .ref an, .int 0, .int 0])), (qr, .inr (1, [.ref as_, .int 0])), (qk, .inr (2, [.ref ab, .int 0, .ref ac]))] sz)) (va_A [(qx, .inr (4, [.ref qg, .ref qr, .ref qk, .ref ql])), (qg, .inr (0, [.ref ao, .ref ai, .ref an, .int 0, .int 0])), (qr, .inr (1, [.ref as_, .int 0])), (qk, .inr (2, [.ref ab, .int 0, .ref ac]))] sz)) 0 0 (va_A [(qx, .inr (4, [.ref qg, .ref qr, .ref qk, .ref ql])), (qg, .inr (0, [.ref ao, .ref ai, .ref an, .int 0, .int 0])), (qr, .inr (1, [.ref as_, .int 0])), (qk, .inr (2, [.ref ab, .int 0, .ref ac]))] sz) := by
  refine Met.ofW (cc := prog_1_method_11_code) (maxL := 1) (ret := (some .int)) (by decide) rfl ?_
  intro p e s m args below meth c s₁ B hml hv
  obtain ⟨rfl, hsz, hP, hK, hD0, hN⟩ := hv
  have hx := B.exec
  have hb := B.bytes
  have hr := B.returns
  have hts := ww_hts (atoms_spec (ws := ww ({ cls := "StrongParts", name := "depth", desc := "()I" } : Jvm.MethodName) prog_1_method_11_code 1 (some .int)) B.pre)
  have hown : s.vm.findClass "StrongParts" = some m.cls := findClass_of_methodNamed B.named
  have hlocks := B.notSynchronized
  subst hsz
  have hD := hD0.self (sz := s.heap.size)
  generalize hAe : va_A [(qx, .inr (4, [.ref qg, .ref qr, .ref qk, .ref ql])), (qg, .inr (0, [.ref ao, .ref ai, .ref an, .int 0, .int 0])), (qr, .inr (1, [.ref as_, .int 0])), (qk, .inr (2, [.ref ab, .int 0, .ref ac]))] s.heap.size = A at hD ⊢
  have hA : ∀ q : Nat, s.heap.size ≤ q → A q := fun q h => by rw [← hAe]; exact Or.inr h
  have hS : va_S A s.heap s.heap [] := va_S.rf
  have hP : va_P (dC, dI) classes [(qx, .inr (4, [.ref qg, .ref qr, .ref qk, .ref ql])), (qg, .inr (0, [.ref ao, .ref ai, .ref an, .int 0, .int 0])), (qr, .inr (1, [.ref as_, .int 0])), (qk, .inr (2, [.ref ab, .int 0, .ref ac]))] s.heap := hP
  have hl := lv_entry ([.ref qx]) (n := 1) (Nat.le_of_ble_eq_true rfl)
  rw [lg_entry_eq]
  generalize (lg_sl ([.ref qx]) ++ List.replicate (1 - (lg_sl ([.ref qx])).length) Slot.unset).toArray = ls at hl ⊢
  have hl : lv_has ls 1 [(0, .ref qx)] := hl
  refine lv_aload_n hx hb d_p1_11_0 rfl (lv_at hl 0 rfl) ?_
  have hPc := hP.sub (ws' := [(qx, .inr (4, [.ref qg, .ref qr, .ref qk, .ref ql])), (qg, .inr (0, [.ref ao, .ref ai, .ref an, .int 0, .int 0])), (qr, .inr (1, [.ref as_, .int 0])), (qk, .inr (2, [.ref ab, .int 0, .ref ac]))]) [0, 1, 2, 3] rfl
  have hDc := hD.sub (ws' := [(qx, .inr (4, [.ref qg, .ref qr, .ref qk, .ref ql])), (qg, .inr (0, [.ref ao, .ref ai, .ref an, .int 0, .int 0])), (qr, .inr (1, [.ref as_, .int 0])), (qk, .inr (2, [.ref ab, .int 0, .ref ac]))]) [0, 1, 2, 3] (by decide) rfl
  have hKc := hK.sub (tys' := []) [] rfl
  have hFc := va_free (wc := [(qx, .inr (4, [.ref qg, .ref qr, .ref qk, .ref ql])), (qg, .inr (0, [.ref ao, .ref ai, .ref an, .int 0, .int 0])), (qr, .inr (1, [.ref as_, .int 0])), (qk, .inr (2, [.ref ab, .int 0, .ref ac]))]) hD hS hA [0, 1, 2, 3] rfl
  refine va_callv (va_runV (As := []) (rest := []) ⟨hx, hb, hml, hown, hts⟩ (c_X_orderKnots l dC dI qx qg qr qk ql ao ai an as_ ab ac s.heap.size) (cwV 0 hts (gV gd_277 tw_274 tw_276 tw_13 tw_55) rfl rfl rfl (by decide +kernel) ⟨Nat.le_of_ble_eq_true rfl, Nat.le_of_ble_eq_true rfl⟩) ⟨cPre_blind, va_recv hKc hPc (ci := 4) (q0 := 0) rfl rfl, cPre_pre hPc hKc hDc hN⟩ rfl rfl hl.1 rfl (lv_room (Nat.le_of_ble_eq_true rfl)) d_p1_11_1 ⟨Nat.le_of_ble_eq_true rfl, Nat.le_of_ble_eq_true rfl⟩) hS (fun q _ h => hFc q h) hFc (fun u t H1 locs ht hvm hw hB hz1 hk1 hS => ?_)
  obtain ⟨hP1, hK1, hD1⟩ := hB
  rw [ht] at hP1
  obtain ⟨hP, hD⟩ := va_join (wr := []) (w1 := [(qx, .inr (4, [.ref qg, .ref qr, .ref qk, .ref ql])), (qg, .inr (0, [.ref ao, .ref ai, .ref an, .int 0, .int 0])), (qr, .inr (1, [.ref as_, .int 0])), (qk, .inr (2, [.ref ab, .int 0, .ref ac]))]) hP hD [0, 1, 2, 3] [] rfl rfl (by decide) (by decide) hk1 hFc hP1 hD1
  generalize H1 = H at hP hS ⊢
  have hP : va_P (dC, dI) classes [(qx, .inr (4, [.ref qg, .ref qr, .ref qk, .ref ql])), (qg, .inr (0, [.ref ao, .ref ai, .ref an, .int 0, .int 0])), (qr, .inr (1, [.ref as_, .int 0])), (qk, .inr (2, [.ref ab, .int 0, .ref ac]))] H := hP
  have hD : va_D A [(qx, .inr (4, [.ref qg, .ref qr, .ref qk, .ref ql])), (qg, .inr (0, [.ref ao, .ref ai, .ref an, .int 0, .int 0])), (qr, .inr (1, [.ref as_, .int 0])), (qk, .inr (2, [.ref ab, .int 0, .ref ac]))] := hD
  refine lv_aload_n hx hb d_p1_11_4 rfl (lv_at hl 0 rfl) ?_
  refine va_get (D := (dC, dI)) (ci := 4) (v := .ref qk) (C := "StrongParts") (T := T_4) (N := 4) hx hb hts in_4 hown hK hP 0 rfl rfl 2 (by decide) (hts _ tw_149) (fun _ h9 => h9) rfl d_p1_11_5 ?_
  have hPc := hP.sub (ws' := [(qk, .inr (2, [.ref ab, .int 0, .ref ac]))]) [3] rfl
  have hDc := hD.sub (ws' := [(qk, .inr (2, [.ref ab, .int 0, .ref ac]))]) [3] (by decide) rfl
  have hKc := hK.sub (tys' := []) [] rfl
  have hFc := va_free (wc := [(qk, .inr (2, [.ref ab, .int 0, .ref ac]))]) hD hS hA [3] rfl
  refine va_calli (va_runVN (As := []) (rest := []) ⟨hx, hb, hml, hown, hts⟩ (c_K_longestChain l dC dI qk ab ac H.size) (⟨va_cnB 0 hts (gd_329) rfl rfl rfl (hN _ nw_326) (hts _ tw_58) (by decide +kernel) ⟨Nat.le_of_ble_eq_true rfl, Nat.le_of_ble_eq_true rfl⟩, hts _ tw_328, hts _ tw_21⟩) ⟨cPre_blind, va_recv hKc hPc (ci := 2) (q0 := 0) rfl rfl, cPre_pre hPc hKc hDc hN⟩ rfl rfl hl.1 rfl (lv_room (Nat.le_of_ble_eq_true rfl)) d_p1_11_8 ⟨Nat.le_of_ble_eq_true rfl, Nat.le_of_ble_eq_true rfl⟩) hS (fun q _ h => hFc q h) hFc (fun r_2 u t H1 locs ht hvm hw hB hz1 hk1 hS => ?_)
  obtain ⟨hP1, hK1, hD1⟩ := hB
  rw [ht] at hP1
  obtain ⟨hP, hD⟩ := va_join (wr := [(qx, .inr (4, [.ref qg, .ref qr, .ref qk, .ref ql])), (qg, .inr (0, [.ref ao, .ref ai, .ref an, .int 0, .int 0])), (qr, .inr (1, [.ref as_, .int 0]))]) (w1 := [(qk, .inr (2, [.ref ab, .int 0, .ref ac]))]) hP hD [3] [0, 1, 2] rfl rfl (by decide) (by decide) hk1 hFc hP1 hD1
  generalize H1 = H at hP hS ⊢
  have hP : va_P (dC, dI) classes [(qx, .inr (4, [.ref qg, .ref qr, .ref qk, .ref ql])), (qg, .inr (0, [.ref ao, .ref ai, .ref an, .int 0, .int 0])), (qr, .inr (1, [.ref as_, .int 0])), (qk, .inr (2, [.ref ab, .int 0, .ref ac]))] H := hP
  have hD : va_D A [(qx, .inr (4, [.ref qg, .ref qr, .ref qk, .ref ql])), (qg, .inr (0, [.ref ao, .ref ai, .ref an, .int 0, .int 0])), (qr, .inr (1, [.ref as_, .int 0])), (qk, .inr (2, [.ref ab, .int 0, .ref ac]))] := hD
  obtain rfl : r_2 = (0 : Int32) := hw
  have hP9 := hP.sub (ws' := []) [] rfl
  have hD9 := hD.sub (ws' := []) [] (by decide) rfl
  have hK9 := hK.sub (tys' := []) [] rfl
  exact W.iret (v := 0) hx hb hr (fun t ht hW => ⟨⟨0, (), rfl, rfl, cEnd_mk hP9 hK9 hD9 ht hW⟩, hS.F ht⟩) hS.2.2 d_p1_11_11

set_option maxHeartbeats 4000000 in
set_option maxRecDepth 100000 in
theorem c_X_odd (l : Launch) (dC : Nat → ClassId) (dI : Nat → Nat → Nat) (qx : Nat) (qg : Nat) (qr : Nat) (qk : Nat) (ql : Nat) (ao : Nat) (ai : Nat) (an : Nat) (sz : Nat) : Met l ({ cls := "StrongParts", name := "odd", desc := "()I" } : Jvm.MethodName) (ww ({ cls := "StrongParts", name := "odd", desc := "()I" } : Jvm.MethodName) prog_1_method_19_code 1 (some .int)) ({ frames := 1, cells := 0, slots := 0, locals := 23 }) (va_Pc [.ref qx] (cPre (dC, dI) [(qx, .inr (4, [.ref qg, .ref qr, .ref qk, .ref ql])), (qg, .inr (0, [.ref ao, .ref ai, .ref an, .int 0, .int 0]))] [] sz)) (va_Qi (fun (r : Int32) (_ : Unit) => r = (-1)) (cEnd (dC, dI) [] [] (va_A [(qx, .inr (4, [.ref qg, .ref qr, .ref qk, .ref ql])), (qg, .inr (0, [.ref ao, .ref ai, .ref an, .int 0, .int 0]))] sz)) (va_A [(qx, .inr (4, [.ref qg, .ref qr, .ref qk, .ref ql])), (qg, .inr (0, [.ref ao, .ref ai, .ref an, .int 0, .int 0]))] sz)) 0 0 (va_A [(qx, .inr (4, [.ref qg, .ref qr, .ref qk, .ref ql])), (qg, .inr (0, [.ref ao, .ref ai, .ref an, .int 0, .int 0]))] sz) := by
  refine Met.ofW (cc := prog_1_method_19_code) (maxL := 1) (ret := (some .int)) (by decide) rfl ?_
  intro p e s m args below meth c s₁ B hml hv
  obtain ⟨rfl, hsz, hP, hK, hD0, hN⟩ := hv
  have hx := B.exec
  have hb := B.bytes
  have hr := B.returns
  have hts := ww_hts (atoms_spec (ws := ww ({ cls := "StrongParts", name := "odd", desc := "()I" } : Jvm.MethodName) prog_1_method_19_code 1 (some .int)) B.pre)
  have hown : s.vm.findClass "StrongParts" = some m.cls := findClass_of_methodNamed B.named
  have hlocks := B.notSynchronized
  subst hsz
  have hD := hD0.self (sz := s.heap.size)
  generalize hAe : va_A [(qx, .inr (4, [.ref qg, .ref qr, .ref qk, .ref ql])), (qg, .inr (0, [.ref ao, .ref ai, .ref an, .int 0, .int 0]))] s.heap.size = A at hD ⊢
  have hA : ∀ q : Nat, s.heap.size ≤ q → A q := fun q h => by rw [← hAe]; exact Or.inr h
  have hS : va_S A s.heap s.heap [] := va_S.rf
  have hP : va_P (dC, dI) classes [(qx, .inr (4, [.ref qg, .ref qr, .ref qk, .ref ql])), (qg, .inr (0, [.ref ao, .ref ai, .ref an, .int 0, .int 0]))] s.heap := hP
  have hl := lv_entry ([.ref qx]) (n := 1) (Nat.le_of_ble_eq_true rfl)
  rw [lg_entry_eq]
  generalize (lg_sl ([.ref qx]) ++ List.replicate (1 - (lg_sl ([.ref qx])).length) Slot.unset).toArray = ls at hl ⊢
  have hl : lv_has ls 1 [(0, .ref qx)] := hl
  refine lv_aload_n hx hb d_p1_19_0 rfl (lv_at hl 0 rfl) ?_
  have hPc := hP.sub (ws' := [(qx, .inr (4, [.ref qg, .ref qr, .ref qk, .ref ql])), (qg, .inr (0, [.ref ao, .ref ai, .ref an, .int 0, .int 0]))]) [0, 1] rfl
  have hDc := hD.sub (ws' := [(qx, .inr (4, [.ref qg, .ref qr, .ref qk, .ref ql])), (qg, .inr (0, [.ref ao, .ref ai, .ref an, .int 0, .int 0]))]) [0, 1] (by decide) rfl
  have hKc := hK.sub (tys' := []) [] rfl
  have hFc := va_free (wc := [(qx, .inr (4, [.ref qg, .ref qr, .ref qk, .ref ql])), (qg, .inr (0, [.ref ao, .ref ai, .ref an, .int 0, .int 0]))]) hD hS hA [0, 1] rfl
  refine va_calli (va_runV (As := []) (rest := []) ⟨hx, hb, hml, hown, hts⟩ (c_X_shortestOdd l dC dI qx qg qr qk ql ao ai an s.heap.size) (cwV 0 hts (gV gd_398 tw_395 tw_397 tw_28 tw_55) rfl rfl rfl (by decide +kernel) ⟨Nat.le_of_ble_eq_true rfl, Nat.le_of_ble_eq_true rfl⟩) ⟨cPre_blind, va_recv hKc hPc (ci := 4) (q0 := 0) rfl rfl, cPre_pre hPc hKc hDc hN⟩ rfl rfl hl.1 rfl (lv_room (Nat.le_of_ble_eq_true rfl)) d_p1_19_1 ⟨Nat.le_of_ble_eq_true rfl, Nat.le_of_ble_eq_true rfl⟩) hS (fun q _ h => hFc q h) hFc (fun r_1 u t H1 locs ht hvm hw hB hz1 hk1 hS => ?_)
  obtain ⟨hP1, hK1, hD1⟩ := hB
  rw [ht] at hP1
  obtain ⟨hP, hD⟩ := va_join (wr := []) (w1 := [(qx, .inr (4, [.ref qg, .ref qr, .ref qk, .ref ql])), (qg, .inr (0, [.ref ao, .ref ai, .ref an, .int 0, .int 0]))]) hP hD [0, 1] [] rfl rfl (by decide) (by decide) hk1 hFc hP1 hD1
  generalize H1 = H at hP hS ⊢
  have hP : va_P (dC, dI) classes [(qx, .inr (4, [.ref qg, .ref qr, .ref qk, .ref ql])), (qg, .inr (0, [.ref ao, .ref ai, .ref an, .int 0, .int 0]))] H := hP
  have hD : va_D A [(qx, .inr (4, [.ref qg, .ref qr, .ref qk, .ref ql])), (qg, .inr (0, [.ref ao, .ref ai, .ref an, .int 0, .int 0]))] := hD
  obtain rfl : r_1 = ((-1) : Int32) := hw
  have hP9 := hP.sub (ws' := []) [] rfl
  have hD9 := hD.sub (ws' := []) [] (by decide) rfl
  have hK9 := hK.sub (tys' := []) [] rfl
  exact W.iret (v := (-1)) hx hb hr (fun t ht hW => ⟨⟨(-1), (), rfl, rfl, cEnd_mk hP9 hK9 hD9 ht hW⟩, hS.F ht⟩) hS.2.2 d_p1_19_4

set_option maxHeartbeats 4000000 in
set_option maxRecDepth 100000 in
theorem c_X_ring (l : Launch) (dC : Nat → ClassId) (dI : Nat → Nat → Nat) (qx : Nat) (qg : Nat) (qr : Nat) (qk : Nat) (ql : Nat) (ao : Nat) (ai : Nat) (an : Nat) (p0 : Int32) (sz : Nat) : Met l ({ cls := "StrongParts", name := "ring", desc := "(I)I" } : Jvm.MethodName) (ww ({ cls := "StrongParts", name := "ring", desc := "(I)I" } : Jvm.MethodName) prog_1_method_20_code 4 (some .int)) ({ frames := 1, cells := 0, slots := 0, locals := 23 }) (va_Pc [.ref qx, .int p0] (cPre (dC, dI) [(qx, .inr (4, [.ref qg, .ref qr, .ref qk, .ref ql])), (qg, .inr (0, [.ref ao, .ref ai, .ref an, .int 0, .int 0]))] [] sz)) (va_Qi (fun (r : Int32) (_ : Unit) => r = (-1)) (cEnd (dC, dI) [] [] (va_A [(qx, .inr (4, [.ref qg, .ref qr, .ref qk, .ref ql])), (qg, .inr (0, [.ref ao, .ref ai, .ref an, .int 0, .int 0]))] sz)) (va_A [(qx, .inr (4, [.ref qg, .ref qr, .ref qk, .ref ql])), (qg, .inr (0, [.ref ao, .ref ai, .ref an, .int 0, .int 0]))] sz)) 0 0 (va_A [(qx, .inr (4, [.ref qg, .ref qr, .ref qk, .ref ql])), (qg, .inr (0, [.ref ao, .ref ai, .ref an, .int 0, .int 0]))] sz) := by
  refine Met.ofW (cc := prog_1_method_20_code) (maxL := 4) (ret := (some .int)) (by decide) rfl ?_
  intro p e s m args below meth c s₁ B hml hv
  obtain ⟨rfl, hsz, hP, hK, hD0, hN⟩ := hv
  have hx := B.exec
  have hb := B.bytes
  have hr := B.returns
  have hts := ww_hts (atoms_spec (ws := ww ({ cls := "StrongParts", name := "ring", desc := "(I)I" } : Jvm.MethodName) prog_1_method_20_code 4 (some .int)) B.pre)
  have hown : s.vm.findClass "StrongParts" = some m.cls := findClass_of_methodNamed B.named
  have hlocks := B.notSynchronized
  subst hsz
  have hD := hD0.self (sz := s.heap.size)
  generalize hAe : va_A [(qx, .inr (4, [.ref qg, .ref qr, .ref qk, .ref ql])), (qg, .inr (0, [.ref ao, .ref ai, .ref an, .int 0, .int 0]))] s.heap.size = A at hD ⊢
  have hA : ∀ q : Nat, s.heap.size ≤ q → A q := fun q h => by rw [← hAe]; exact Or.inr h
  have hS : va_S A s.heap s.heap [] := va_S.rf
  have hP : va_P (dC, dI) classes [(qx, .inr (4, [.ref qg, .ref qr, .ref qk, .ref ql])), (qg, .inr (0, [.ref ao, .ref ai, .ref an, .int 0, .int 0]))] s.heap := hP
  have hl := lv_entry ([.ref qx, .int p0]) (n := 4) (Nat.le_of_ble_eq_true rfl)
  rw [lg_entry_eq]
  generalize (lg_sl ([.ref qx, .int p0]) ++ List.replicate (4 - (lg_sl ([.ref qx, .int p0])).length) Slot.unset).toArray = ls at hl ⊢
  have hl : lv_has ls 4 [(0, .ref qx), (1, .int p0)] := hl
  refine lv_aload_n hx hb d_p1_20_0 rfl (lv_at hl 0 rfl) ?_
  have hPc := hP.sub (ws' := [(qx, .inr (4, [.ref qg, .ref qr, .ref qk, .ref ql])), (qg, .inr (0, [.ref ao, .ref ai, .ref an, .int 0, .int 0]))]) [0, 1] rfl
  have hDc := hD.sub (ws' := [(qx, .inr (4, [.ref qg, .ref qr, .ref qk, .ref ql])), (qg, .inr (0, [.ref ao, .ref ai, .ref an, .int 0, .int 0]))]) [0, 1] (by decide) rfl
  have hKc := hK.sub (tys' := []) [] rfl
  have hFc := va_free (wc := [(qx, .inr (4, [.ref qg, .ref qr, .ref qk, .ref ql])), (qg, .inr (0, [.ref ao, .ref ai, .ref an, .int 0, .int 0]))]) hD hS hA [0, 1] rfl
  refine va_calli (va_runV (As := []) (rest := []) ⟨hx, hb, hml, hown, hts⟩ (c_X_shortestOdd l dC dI qx qg qr qk ql ao ai an s.heap.size) (cwV 0 hts (gV gd_398 tw_395 tw_397 tw_28 tw_55) rfl rfl rfl (by decide +kernel) ⟨Nat.le_of_ble_eq_true rfl, Nat.le_of_ble_eq_true rfl⟩) ⟨cPre_blind, va_recv hKc hPc (ci := 4) (q0 := 0) rfl rfl, cPre_pre hPc hKc hDc hN⟩ rfl rfl hl.1 rfl (lv_room (Nat.le_of_ble_eq_true rfl)) d_p1_20_1 ⟨Nat.le_of_ble_eq_true rfl, Nat.le_of_ble_eq_true rfl⟩) hS (fun q _ h => hFc q h) hFc (fun r_1 u t H1 locs ht hvm hw hB hz1 hk1 hS => ?_)
  obtain ⟨hP1, hK1, hD1⟩ := hB
  rw [ht] at hP1
  obtain ⟨hP, hD⟩ := va_join (wr := []) (w1 := [(qx, .inr (4, [.ref qg, .ref qr, .ref qk, .ref ql])), (qg, .inr (0, [.ref ao, .ref ai, .ref an, .int 0, .int 0]))]) hP hD [0, 1] [] rfl rfl (by decide) (by decide) hk1 hFc hP1 hD1
  generalize H1 = H at hP hS ⊢
  have hP : va_P (dC, dI) classes [(qx, .inr (4, [.ref qg, .ref qr, .ref qk, .ref ql])), (qg, .inr (0, [.ref ao, .ref ai, .ref an, .int 0, .int 0]))] H := hP
  have hD : va_D A [(qx, .inr (4, [.ref qg, .ref qr, .ref qk, .ref ql])), (qg, .inr (0, [.ref ao, .ref ai, .ref an, .int 0, .int 0]))] := hD
  obtain rfl : r_1 = ((-1) : Int32) := hw
  refine lv_istore_n (lv' := [(2, .int (-1)), (0, .ref qx), (1, .int p0)]) hx hb d_p1_20_4 rfl hl (by decide) rfl (fun ls hl => ?_)
  refine lv_iload_n hx hb d_p1_20_5 rfl (lv_at hl 2 rfl) ?_
  refine lv_if_lt (tgt := 14) hx hb d_p1_20_6 (by decide) (fun c_6 => ?_) (fun c_6 => ?_)
  · refine lv_iconst (v := (-1)) hx hb d_p1_20_14 (by decide) ?_
    have hP9 := hP.sub (ws' := []) [] rfl
    have hD9 := hD.sub (ws' := []) [] (by decide) rfl
    have hK9 := hK.sub (tys' := []) [] rfl
    exact W.iret (v := (-1)) hx hb hr (fun t ht hW => ⟨⟨(-1), (), rfl, rfl, cEnd_mk hP9 hK9 hD9 ht hW⟩, hS.F ht⟩) hS.2.2 d_p1_20_15
  · refine lv_iload_n hx hb d_p1_20_9 rfl (lv_at hl 2 rfl) ?_
    refine lv_iload_n hx hb d_p1_20_10 rfl (lv_at hl 0 rfl) ?_
    refine lv_icmp_lt (tgt := 16) hx hb d_p1_20_11 (by decide) (fun c_11 => absurd (Int32.lt_trans c_11 (by decide)) c_6) (fun c_11 => ?_)
    refine lv_iconst (v := (-1)) hx hb d_p1_20_14 (by decide) ?_
    have hP9 := hP.sub (ws' := []) [] rfl
    have hD9 := hD.sub (ws' := []) [] (by decide) rfl
    have hK9 := hK.sub (tys' := []) [] rfl
    exact W.iret (v := (-1)) hx hb hr (fun t ht hW => ⟨⟨(-1), (), rfl, rfl, cEnd_mk hP9 hK9 hD9 ht hW⟩, hS.F ht⟩) hS.2.2 d_p1_20_15

set_option maxHeartbeats 4000000 in
set_option maxRecDepth 100000 in
theorem c_X_adding (l : Launch) (dC : Nat → ClassId) (dI : Nat → Nat → Nat) (qx : Nat) (qg : Nat) (qr : Nat) (qk : Nat) (ql : Nat) (ao : Nat) (ai : Nat) (an : Nat) (as_ : Nat) (ab : Nat) (ac : Nat) (sz : Nat) : Met l ({ cls := "StrongParts", name := "adding", desc := "()I" } : Jvm.MethodName) (ww ({ cls := "StrongParts", name := "adding", desc := "()I" } : Jvm.MethodName) prog_1_method_21_code 1 (some .int)) ({ frames := 3, cells := 0, slots := 0, locals := 67 }) (va_Pc [.ref qx] (cPre (dC, dI) [(qx, .inr (4, [.ref qg, .ref qr, .ref qk, .ref ql])), (qg, .inr (0, [.ref ao, .ref ai, .ref an, .int 0, .int 0])), (qr, .inr (1, [.ref as_, .int 0])), (qk, .inr (2, [.ref ab, .int 0, .ref ac]))] [] sz)) (va_Qi (fun (r : Int32) (_ : Unit) => r = 0) (cEnd (dC, dI) [] [] (va_A [(qx, .inr (4, [.ref qg, .ref qr, .ref qk, .ref ql])), (qg, .inr (0, [.ref ao, .ref ai, .ref an, .int 0, .int 0])), (qr, .inr (1, [.ref as_, .int 0])), (qk, .inr (2, [.ref ab, .int 0, .ref ac]))] sz)) (va_A [(qx, .inr (4, [.ref qg, .ref qr, .ref qk, .ref ql])), (qg, .inr (0, [.ref ao, .ref ai, .ref an, .int 0, .int 0])), (qr, .inr (1, [.ref as_, .int 0])), (qk, .inr (2, [.ref ab, .int 0, .ref ac]))] sz)) 0 0 (va_A [(qx, .inr (4, [.ref qg, .ref qr, .ref qk, .ref ql])), (qg, .inr (0, [.ref ao, .ref ai, .ref an, .int 0, .int 0])), (qr, .inr (1, [.ref as_, .int 0])), (qk, .inr (2, [.ref ab, .int 0, .ref ac]))] sz) := by
  refine Met.ofW (cc := prog_1_method_21_code) (maxL := 1) (ret := (some .int)) (by decide) rfl ?_
  intro p e s m args below meth c s₁ B hml hv
  obtain ⟨rfl, hsz, hP, hK, hD0, hN⟩ := hv
  have hx := B.exec
  have hb := B.bytes
  have hr := B.returns
  have hts := ww_hts (atoms_spec (ws := ww ({ cls := "StrongParts", name := "adding", desc := "()I" } : Jvm.MethodName) prog_1_method_21_code 1 (some .int)) B.pre)
  have hown : s.vm.findClass "StrongParts" = some m.cls := findClass_of_methodNamed B.named
  have hlocks := B.notSynchronized
  subst hsz
  have hD := hD0.self (sz := s.heap.size)
  generalize hAe : va_A [(qx, .inr (4, [.ref qg, .ref qr, .ref qk, .ref ql])), (qg, .inr (0, [.ref ao, .ref ai, .ref an, .int 0, .int 0])), (qr, .inr (1, [.ref as_, .int 0])), (qk, .inr (2, [.ref ab, .int 0, .ref ac]))] s.heap.size = A at hD ⊢
  have hA : ∀ q : Nat, s.heap.size ≤ q → A q := fun q h => by rw [← hAe]; exact Or.inr h
  have hS : va_S A s.heap s.heap [] := va_S.rf
  have hP : va_P (dC, dI) classes [(qx, .inr (4, [.ref qg, .ref qr, .ref qk, .ref ql])), (qg, .inr (0, [.ref ao, .ref ai, .ref an, .int 0, .int 0])), (qr, .inr (1, [.ref as_, .int 0])), (qk, .inr (2, [.ref ab, .int 0, .ref ac]))] s.heap := hP
  have hl := lv_entry ([.ref qx]) (n := 1) (Nat.le_of_ble_eq_true rfl)
  rw [lg_entry_eq]
  generalize (lg_sl ([.ref qx]) ++ List.replicate (1 - (lg_sl ([.ref qx])).length) Slot.unset).toArray = ls at hl ⊢
  have hl : lv_has ls 1 [(0, .ref qx)] := hl
  refine lv_aload_n hx hb d_p1_21_0 rfl (lv_at hl 0 rfl) ?_
  have hPc := hP.sub (ws' := [(qx, .inr (4, [.ref qg, .ref qr, .ref qk, .ref ql])), (qg, .inr (0, [.ref ao, .ref ai, .ref an, .int 0, .int 0])), (qr, .inr (1, [.ref as_, .int 0])), (qk, .inr (2, [.ref ab, .int 0, .ref ac]))]) [0, 1, 2, 3] rfl
  have hDc := hD.sub (ws' := [(qx, .inr (4, [.ref qg, .ref qr, .ref qk, .ref ql])), (qg, .inr (0, [.ref ao, .ref ai, .ref an, .int 0, .int 0])), (qr, .inr (1, [.ref as_, .int 0])), (qk, .inr (2, [.ref ab, .int 0, .ref ac]))]) [0, 1, 2, 3] (by decide) rfl
  have hKc := hK.sub (tys' := []) [] rfl
  have hFc := va_free (wc := [(qx, .inr (4, [.ref qg, .ref qr, .ref qk, .ref ql])), (qg, .inr (0, [.ref ao, .ref ai, .ref an, .int 0, .int 0])), (qr, .inr (1, [.ref as_, .int 0])), (qk, .inr (2, [.ref ab, .int 0, .ref ac]))]) hD hS hA [0, 1, 2, 3] rfl
  refine va_callv (va_runV (As := []) (rest := []) ⟨hx, hb, hml, hown, hts⟩ (c_X_orderKnots l dC dI qx qg qr qk ql ao ai an as_ ab ac s.heap.size) (cwV 0 hts (gV gd_277 tw_274 tw_276 tw_13 tw_55) rfl rfl rfl (by decide +kernel) ⟨Nat.le_of_ble_eq_true rfl, Nat.le_of_ble_eq_true rfl⟩) ⟨cPre_blind, va_recv hKc hPc (ci := 4) (q0 := 0) rfl rfl, cPre_pre hPc hKc hDc hN⟩ rfl rfl hl.1 rfl (lv_room (Nat.le_of_ble_eq_true rfl)) d_p1_21_1 ⟨Nat.le_of_ble_eq_true rfl, Nat.le_of_ble_eq_true rfl⟩) hS (fun q _ h => hFc q h) hFc (fun u t H1 locs ht hvm hw hB hz1 hk1 hS => ?_)
  obtain ⟨hP1, hK1, hD1⟩ := hB
  rw [ht] at hP1
  obtain ⟨hP, hD⟩ := va_join (wr := []) (w1 := [(qx, .inr (4, [.ref qg, .ref qr, .ref qk, .ref ql])), (qg, .inr (0, [.ref ao, .ref ai, .ref an, .int 0, .int 0])), (qr, .inr (1, [.ref as_, .int 0])), (qk, .inr (2, [.ref ab, .int 0, .ref ac]))]) hP hD [0, 1, 2, 3] [] rfl rfl (by decide) (by decide) hk1 hFc hP1 hD1
  generalize H1 = H at hP hS ⊢
  have hP : va_P (dC, dI) classes [(qx, .inr (4, [.ref qg, .ref qr, .ref qk, .ref ql])), (qg, .inr (0, [.ref ao, .ref ai, .ref an, .int 0, .int 0])), (qr, .inr (1, [.ref as_, .int 0])), (qk, .inr (2, [.ref ab, .int 0, .ref ac]))] H := hP
  have hD : va_D A [(qx, .inr (4, [.ref qg, .ref qr, .ref qk, .ref ql])), (qg, .inr (0, [.ref ao, .ref ai, .ref an, .int 0, .int 0])), (qr, .inr (1, [.ref as_, .int 0])), (qk, .inr (2, [.ref ab, .int 0, .ref ac]))] := hD
  refine lv_aload_n hx hb d_p1_21_4 rfl (lv_at hl 0 rfl) ?_
  refine va_get (D := (dC, dI)) (ci := 4) (v := .ref qk) (C := "StrongParts") (T := T_4) (N := 4) hx hb hts in_4 hown hK hP 0 rfl rfl 2 (by decide) (hts _ tw_149) (fun _ h9 => h9) rfl d_p1_21_5 ?_
  have hPc := hP.sub (ws' := [(qk, .inr (2, [.ref ab, .int 0, .ref ac]))]) [3] rfl
  have hDc := hD.sub (ws' := [(qk, .inr (2, [.ref ab, .int 0, .ref ac]))]) [3] (by decide) rfl
  have hKc := hK.sub (tys' := []) [] rfl
  have hFc := va_free (wc := [(qk, .inr (2, [.ref ab, .int 0, .ref ac]))]) hD hS hA [3] rfl
  refine va_calli (va_runVN (As := []) (rest := []) ⟨hx, hb, hml, hown, hts⟩ (c_K_missingArcs l dC dI qk ab ac H.size) (⟨va_cnB 0 hts (gd_414) rfl rfl rfl (hN _ nw_411) (hts _ tw_58) (by decide +kernel) ⟨Nat.le_of_ble_eq_true rfl, Nat.le_of_ble_eq_true rfl⟩, hts _ tw_413, hts _ tw_30⟩) ⟨cPre_blind, va_recv hKc hPc (ci := 2) (q0 := 0) rfl rfl, cPre_pre hPc hKc hDc hN⟩ rfl rfl hl.1 rfl (lv_room (Nat.le_of_ble_eq_true rfl)) d_p1_21_8 ⟨Nat.le_of_ble_eq_true rfl, Nat.le_of_ble_eq_true rfl⟩) hS (fun q _ h => hFc q h) hFc (fun r_2 u t H1 locs ht hvm hw hB hz1 hk1 hS => ?_)
  obtain ⟨hP1, hK1, hD1⟩ := hB
  rw [ht] at hP1
  obtain ⟨hP, hD⟩ := va_join (wr := [(qx, .inr (4, [.ref qg, .ref qr, .ref qk, .ref ql])), (qg, .inr (0, [.ref ao, .ref ai, .ref an, .int 0, .int 0])), (qr, .inr (1, [.ref as_, .int 0]))]) (w1 := [(qk, .inr (2, [.ref ab, .int 0, .ref ac]))]) hP hD [3] [0, 1, 2] rfl rfl (by decide) (by decide) hk1 hFc hP1 hD1
  generalize H1 = H at hP hS ⊢
  have hP : va_P (dC, dI) classes [(qx, .inr (4, [.ref qg, .ref qr, .ref qk, .ref ql])), (qg, .inr (0, [.ref ao, .ref ai, .ref an, .int 0, .int 0])), (qr, .inr (1, [.ref as_, .int 0])), (qk, .inr (2, [.ref ab, .int 0, .ref ac]))] H := hP
  have hD : va_D A [(qx, .inr (4, [.ref qg, .ref qr, .ref qk, .ref ql])), (qg, .inr (0, [.ref ao, .ref ai, .ref an, .int 0, .int 0])), (qr, .inr (1, [.ref as_, .int 0])), (qk, .inr (2, [.ref ab, .int 0, .ref ac]))] := hD
  obtain rfl : r_2 = (0 : Int32) := hw
  have hP9 := hP.sub (ws' := []) [] rfl
  have hD9 := hD.sub (ws' := []) [] (by decide) rfl
  have hK9 := hK.sub (tys' := []) [] rfl
  exact W.iret (v := 0) hx hb hr (fun t ht hW => ⟨⟨0, (), rfl, rfl, cEnd_mk hP9 hK9 hD9 ht hW⟩, hS.F ht⟩) hS.2.2 d_p1_21_11

set_option maxHeartbeats 4000000 in
set_option maxRecDepth 100000 in
theorem c_X_roots (l : Launch) (dC : Nat → ClassId) (dI : Nat → Nat → Nat) (qx : Nat) (qg : Nat) (qr : Nat) (qk : Nat) (ql : Nat) (ao : Nat) (ai : Nat) (an : Nat) (sz : Nat) : Met l ({ cls := "StrongParts", name := "roots", desc := "()I" } : Jvm.MethodName) (ww ({ cls := "StrongParts", name := "roots", desc := "()I" } : Jvm.MethodName) prog_1_method_22_code 3 (some .int)) ({ frames := 0, cells := 0, slots := 0, locals := 0 }) (va_Pc [.ref qx] (cPre (dC, dI) [(qx, .inr (4, [.ref qg, .ref qr, .ref qk, .ref ql])), (qg, .inr (0, [.ref ao, .ref ai, .ref an, .int 0, .int 0]))] [] sz)) (va_Qi (fun (r : Int32) (_ : Unit) => r = 0) (cEnd (dC, dI) [] [] (va_A [(qx, .inr (4, [.ref qg, .ref qr, .ref qk, .ref ql])), (qg, .inr (0, [.ref ao, .ref ai, .ref an, .int 0, .int 0]))] sz)) (va_A [(qx, .inr (4, [.ref qg, .ref qr, .ref qk, .ref ql])), (qg, .inr (0, [.ref ao, .ref ai, .ref an, .int 0, .int 0]))] sz)) 0 0 (va_A [(qx, .inr (4, [.ref qg, .ref qr, .ref qk, .ref ql])), (qg, .inr (0, [.ref ao, .ref ai, .ref an, .int 0, .int 0]))] sz) := by
  refine Met.ofW (cc := prog_1_method_22_code) (maxL := 3) (ret := (some .int)) (by decide) rfl ?_
  intro p e s m args below meth c s₁ B hml hv
  obtain ⟨rfl, hsz, hP, hK, hD0, hN⟩ := hv
  have hx := B.exec
  have hb := B.bytes
  have hr := B.returns
  have hts := ww_hts (atoms_spec (ws := ww ({ cls := "StrongParts", name := "roots", desc := "()I" } : Jvm.MethodName) prog_1_method_22_code 3 (some .int)) B.pre)
  have hown : s.vm.findClass "StrongParts" = some m.cls := findClass_of_methodNamed B.named
  have hlocks := B.notSynchronized
  subst hsz
  have hD := hD0.self (sz := s.heap.size)
  generalize hAe : va_A [(qx, .inr (4, [.ref qg, .ref qr, .ref qk, .ref ql])), (qg, .inr (0, [.ref ao, .ref ai, .ref an, .int 0, .int 0]))] s.heap.size = A at hD ⊢
  have hA : ∀ q : Nat, s.heap.size ≤ q → A q := fun q h => by rw [← hAe]; exact Or.inr h
  have hS : va_S A s.heap s.heap [] := va_S.rf
  have hP : va_P (dC, dI) classes [(qx, .inr (4, [.ref qg, .ref qr, .ref qk, .ref ql])), (qg, .inr (0, [.ref ao, .ref ai, .ref an, .int 0, .int 0]))] s.heap := hP
  have hl := lv_entry ([.ref qx]) (n := 3) (Nat.le_of_ble_eq_true rfl)
  rw [lg_entry_eq]
  generalize (lg_sl ([.ref qx]) ++ List.replicate (3 - (lg_sl ([.ref qx])).length) Slot.unset).toArray = ls at hl ⊢
  have hl : lv_has ls 3 [(0, .ref qx)] := hl
  refine lv_iconst (v := 0) hx hb d_p1_22_0 (by decide) ?_
  refine lv_istore_n (lv' := [(1, .int 0), (0, .ref qx)]) hx hb d_p1_22_1 rfl hl (by decide) rfl (fun ls hl => ?_)
  refine lv_iconst (v := 0) hx hb d_p1_22_2 (by decide) ?_
  refine lv_istore_n (lv' := [(2, .int 0), (1, .int 0), (0, .ref qx)]) hx hb d_p1_22_3 rfl hl (by decide) rfl (fun ls hl => ?_)
  refine lv_iload_n hx hb d_p1_22_4 rfl (lv_at hl 0 rfl) ?_
  refine lv_aload_n hx hb d_p1_22_5 rfl (lv_at hl 2 rfl) ?_
  refine va_get (D := (dC, dI)) (ci := 4) (v := .ref qg) (C := "StrongParts") (T := T_4) (N := 4) hx hb hts in_4 hown hK hP 0 rfl rfl 0 (by decide) (hts _ tw_147) (fun _ h9 => h9) rfl d_p1_22_6 ?_
  refine va_getN (D := (dC, dI)) (ci := 0) (v := .int 0) (C := "StrongParts$Graph") (T := T_0) (N := 5) hx hb hts in_0 hown hK hP 1 rfl rfl 3 (by decide) (va_Nw.use rfl (hN _ nw_85)) (fun _ h9 => h9) rfl d_p1_22_9 ?_
  refine lv_icmp_ge (tgt := 46) hx hb d_p1_22_12 (by decide) (fun _ => ?_) (fun c => absurd (by decide) c)
  refine lv_iload_n hx hb d_p1_22_46 rfl (lv_at hl 1 rfl) ?_
  have hP9 := hP.sub (ws' := []) [] rfl
  have hD9 := hD.sub (ws' := []) [] (by decide) rfl
  have hK9 := hK.sub (tys' := []) [] rfl
  exact W.iret (v := 0) hx hb hr (fun t ht hW => ⟨⟨0, (), rfl, rfl, cEnd_mk hP9 hK9 hD9 ht hW⟩, hS.F ht⟩) hS.2.2 d_p1_22_47

set_option maxHeartbeats 4000000 in
set_option maxRecDepth 100000 in
theorem c_X_half (l : Launch) (dC : Nat → ClassId) (dI : Nat → Nat → Nat) (qx : Nat) (qg : Nat) (qr : Nat) (qk : Nat) (ql : Nat) (ao : Nat) (ai : Nat) (an : Nat) (sz : Nat) : Met l ({ cls := "StrongParts", name := "half", desc := "()I" } : Jvm.MethodName) (ww ({ cls := "StrongParts", name := "half", desc := "()I" } : Jvm.MethodName) prog_1_method_23_code 2 (some .int)) ({ frames := 0, cells := 0, slots := 0, locals := 0 }) (va_Pc [.ref qx] (cPre (dC, dI) [(qx, .inr (4, [.ref qg, .ref qr, .ref qk, .ref ql])), (qg, .inr (0, [.ref ao, .ref ai, .ref an, .int 0, .int 0]))] [] sz)) (va_Qi (fun (r : Int32) (_ : Unit) => r = 1) (cEnd (dC, dI) [] [] (va_A [(qx, .inr (4, [.ref qg, .ref qr, .ref qk, .ref ql])), (qg, .inr (0, [.ref ao, .ref ai, .ref an, .int 0, .int 0]))] sz)) (va_A [(qx, .inr (4, [.ref qg, .ref qr, .ref qk, .ref ql])), (qg, .inr (0, [.ref ao, .ref ai, .ref an, .int 0, .int 0]))] sz)) 0 0 (va_A [(qx, .inr (4, [.ref qg, .ref qr, .ref qk, .ref ql])), (qg, .inr (0, [.ref ao, .ref ai, .ref an, .int 0, .int 0]))] sz) := by
  refine Met.ofW (cc := prog_1_method_23_code) (maxL := 2) (ret := (some .int)) (by decide) rfl ?_
  intro p e s m args below meth c s₁ B hml hv
  obtain ⟨rfl, hsz, hP, hK, hD0, hN⟩ := hv
  have hx := B.exec
  have hb := B.bytes
  have hr := B.returns
  have hts := ww_hts (atoms_spec (ws := ww ({ cls := "StrongParts", name := "half", desc := "()I" } : Jvm.MethodName) prog_1_method_23_code 2 (some .int)) B.pre)
  have hown : s.vm.findClass "StrongParts" = some m.cls := findClass_of_methodNamed B.named
  have hlocks := B.notSynchronized
  subst hsz
  have hD := hD0.self (sz := s.heap.size)
  generalize hAe : va_A [(qx, .inr (4, [.ref qg, .ref qr, .ref qk, .ref ql])), (qg, .inr (0, [.ref ao, .ref ai, .ref an, .int 0, .int 0]))] s.heap.size = A at hD ⊢
  have hA : ∀ q : Nat, s.heap.size ≤ q → A q := fun q h => by rw [← hAe]; exact Or.inr h
  have hS : va_S A s.heap s.heap [] := va_S.rf
  have hP : va_P (dC, dI) classes [(qx, .inr (4, [.ref qg, .ref qr, .ref qk, .ref ql])), (qg, .inr (0, [.ref ao, .ref ai, .ref an, .int 0, .int 0]))] s.heap := hP
  have hl := lv_entry ([.ref qx]) (n := 2) (Nat.le_of_ble_eq_true rfl)
  rw [lg_entry_eq]
  generalize (lg_sl ([.ref qx]) ++ List.replicate (2 - (lg_sl ([.ref qx])).length) Slot.unset).toArray = ls at hl ⊢
  have hl : lv_has ls 2 [(0, .ref qx)] := hl
  refine lv_iconst (v := 0) hx hb d_p1_23_0 (by decide) ?_
  refine lv_istore_n (lv' := [(1, .int 0), (0, .ref qx)]) hx hb d_p1_23_1 rfl hl (by decide) rfl (fun ls hl => ?_)
  refine lv_iload_n hx hb d_p1_23_2 rfl (lv_at hl 0 rfl) ?_
  refine lv_aload_n hx hb d_p1_23_3 rfl (lv_at hl 1 rfl) ?_
  refine va_get (D := (dC, dI)) (ci := 4) (v := .ref qg) (C := "StrongParts") (T := T_4) (N := 4) hx hb hts in_4 hown hK hP 0 rfl rfl 0 (by decide) (hts _ tw_147) (fun _ h9 => h9) rfl d_p1_23_4 ?_
  refine va_getN (D := (dC, dI)) (ci := 0) (v := .int 0) (C := "StrongParts$Graph") (T := T_0) (N := 5) hx hb hts in_0 hown hK hP 1 rfl rfl 3 (by decide) (va_Nw.use rfl (hN _ nw_85)) (fun _ h9 => h9) rfl d_p1_23_7 ?_
  refine lv_icmp_ge (tgt := 48) hx hb d_p1_23_10 (by decide) (fun _ => ?_) (fun c => absurd (by decide) c)
  refine lv_iconst (v := 1) hx hb d_p1_23_48 (by decide) ?_
  have hP9 := hP.sub (ws' := []) [] rfl
  have hD9 := hD.sub (ws' := []) [] (by decide) rfl
  have hK9 := hK.sub (tys' := []) [] rfl
  exact W.iret (v := 1) hx hb hr (fun t ht hW => ⟨⟨1, (), rfl, rfl, cEnd_mk hP9 hK9 hD9 ht hW⟩, hS.F ht⟩) hS.2.2 d_p1_23_49

set_option maxHeartbeats 4000000 in
set_option maxRecDepth 100000 in
theorem c_X_loosen (l : Launch) (dC : Nat → ClassId) (dI : Nat → Nat → Nat) (qx : Nat) (qg : Nat) (qr : Nat) (qk : Nat) (ql : Nat) (ao : Nat) (ai : Nat) (an : Nat) (sz : Nat) : Met l ({ cls := "StrongParts", name := "loosen", desc := "()I" } : Jvm.MethodName) (ww ({ cls := "StrongParts", name := "loosen", desc := "()I" } : Jvm.MethodName) prog_1_method_27_code 1 (some .int)) ({ frames := 2, cells := 0, slots := 0, locals := 46 }) (va_Pc [.ref qx] (cPre (dC, dI) [(qx, .inr (4, [.ref qg, .ref qr, .ref qk, .ref ql])), (qg, .inr (0, [.ref ao, .ref ai, .ref an, .int 0, .int 0]))] [] sz)) (va_Qi (fun (r : Int32) (_ : Unit) => r = 0) (cEnd (dC, dI) [] [] (va_A [(qx, .inr (4, [.ref qg, .ref qr, .ref qk, .ref ql])), (qg, .inr (0, [.ref ao, .ref ai, .ref an, .int 0, .int 0]))] sz)) (va_A [(qx, .inr (4, [.ref qg, .ref qr, .ref qk, .ref ql])), (qg, .inr (0, [.ref ao, .ref ai, .ref an, .int 0, .int 0]))] sz)) 0 0 (va_A [(qx, .inr (4, [.ref qg, .ref qr, .ref qk, .ref ql])), (qg, .inr (0, [.ref ao, .ref ai, .ref an, .int 0, .int 0]))] sz) := by
  refine Met.ofW (cc := prog_1_method_27_code) (maxL := 1) (ret := (some .int)) (by decide) rfl ?_
  intro p e s m args below meth c s₁ B hml hv
  obtain ⟨rfl, hsz, hP, hK, hD0, hN⟩ := hv
  have hx := B.exec
  have hb := B.bytes
  have hr := B.returns
  have hts := ww_hts (atoms_spec (ws := ww ({ cls := "StrongParts", name := "loosen", desc := "()I" } : Jvm.MethodName) prog_1_method_27_code 1 (some .int)) B.pre)
  have hown : s.vm.findClass "StrongParts" = some m.cls := findClass_of_methodNamed B.named
  have hlocks := B.notSynchronized
  subst hsz
  have hD := hD0.self (sz := s.heap.size)
  generalize hAe : va_A [(qx, .inr (4, [.ref qg, .ref qr, .ref qk, .ref ql])), (qg, .inr (0, [.ref ao, .ref ai, .ref an, .int 0, .int 0]))] s.heap.size = A at hD ⊢
  have hA : ∀ q : Nat, s.heap.size ≤ q → A q := fun q h => by rw [← hAe]; exact Or.inr h
  have hS : va_S A s.heap s.heap [] := va_S.rf
  have hP : va_P (dC, dI) classes [(qx, .inr (4, [.ref qg, .ref qr, .ref qk, .ref ql])), (qg, .inr (0, [.ref ao, .ref ai, .ref an, .int 0, .int 0]))] s.heap := hP
  have hl := lv_entry ([.ref qx]) (n := 1) (Nat.le_of_ble_eq_true rfl)
  rw [lg_entry_eq]
  generalize (lg_sl ([.ref qx]) ++ List.replicate (1 - (lg_sl ([.ref qx])).length) Slot.unset).toArray = ls at hl ⊢
  have hl : lv_has ls 1 [(0, .ref qx)] := hl
  refine lv_aload_n hx hb d_p1_27_0 rfl (lv_at hl 0 rfl) ?_
  refine va_get (D := (dC, dI)) (ci := 4) (v := .ref qg) (C := "StrongParts") (T := T_4) (N := 4) hx hb hts in_4 hown hK hP 0 rfl rfl 0 (by decide) (hts _ tw_147) (fun _ h9 => h9) rfl d_p1_27_1 ?_
  refine lv_aload_n hx hb d_p1_27_4 rfl (lv_at hl 0 rfl) ?_
  refine va_get (D := (dC, dI)) (ci := 4) (v := .ref qg) (C := "StrongParts") (T := T_4) (N := 4) hx hb hts in_4 hown hK hP 0 rfl rfl 0 (by decide) (hts _ tw_147) (fun _ h9 => h9) rfl d_p1_27_5 ?_
  refine va_getN (D := (dC, dI)) (ci := 0) (v := .int 0) (C := "StrongParts$Graph") (T := T_0) (N := 5) hx hb hts in_0 hown hK hP 1 rfl rfl 3 (by decide) (va_Nw.use rfl (hN _ nw_85)) (fun _ h9 => h9) rfl d_p1_27_8 ?_
  refine lv_iconst (v := 1) hx hb d_p1_27_11 (by decide) ?_
  refine lv_isub hx hb d_p1_27_12 ?_
  refine lv_topi (fun z_1 ez_1 => ?_)
  obtain rfl : z_1 = ((-1) : Int32) := ez_1.trans (by decide)
  refine lv_iconst (v := 0) hx hb d_p1_27_13 (by decide) ?_
  refine lv_iconst (v := 0) hx hb d_p1_27_14 (by decide) ?_
  refine lv_aload_n hx hb d_p1_27_15 rfl (lv_at hl 0 rfl) ?_
  refine va_get (D := (dC, dI)) (ci := 4) (v := .ref qg) (C := "StrongParts") (T := T_4) (N := 4) hx hb hts in_4 hown hK hP 0 rfl rfl 0 (by decide) (hts _ tw_147) (fun _ h9 => h9) rfl d_p1_27_16 ?_
  have hPc := hP.sub (ws' := [(qg, .inr (0, [.ref ao, .ref ai, .ref an, .int 0, .int 0]))]) [1] rfl
  have hDc := hD.sub (ws' := [(qg, .inr (0, [.ref ao, .ref ai, .ref an, .int 0, .int 0]))]) [1] (by decide) rfl
  have hKc := hK.sub (tys' := []) [] rfl
  have hFc := va_free (wc := [(qg, .inr (0, [.ref ao, .ref ai, .ref an, .int 0, .int 0]))]) hD hS hA [1] rfl
  refine va_calli (va_runVN (As := []) (rest := [.int 0, .int 0, .int (-1), .ref qg]) ⟨hx, hb, hml, hown, hts⟩ (c_G_all l dC dI qg ao ai an s.heap.size) (⟨va_cnB 0 hts (gd_235) rfl rfl rfl (hN _ nw_428) (hts _ tw_56) (by decide +kernel) ⟨Nat.le_of_ble_eq_true rfl, Nat.le_of_ble_eq_true rfl⟩, hts _ tw_234, hts _ tw_9⟩) ⟨cPre_blind, va_recv hKc hPc (ci := 0) (q0 := 0) rfl rfl, cPre_pre hPc hKc hDc hN⟩ rfl rfl hl.1 rfl (lv_room (Nat.le_of_ble_eq_true rfl)) d_p1_27_19 ⟨Nat.le_of_ble_eq_true rfl, Nat.le_of_ble_eq_true rfl⟩) hS (fun q _ h => hFc q h) hFc (fun r_2 u t H1 locs ht hvm hw hB hz1 hk1 hS => ?_)
  obtain ⟨hP1, hK1, hD1⟩ := hB
  rw [ht] at hP1
  obtain ⟨hP, hD⟩ := va_join (wr := [(qx, .inr (4, [.ref qg, .ref qr, .ref qk, .ref ql]))]) (w1 := [(qg, .inr (0, [.ref ao, .ref ai, .ref an, .int 0, .int 0]))]) hP hD [1] [0] rfl rfl (by decide) (by decide) hk1 hFc hP1 hD1
  generalize H1 = H at hP hS ⊢
  have hP : va_P (dC, dI) classes [(qx, .inr (4, [.ref qg, .ref qr, .ref qk, .ref ql])), (qg, .inr (0, [.ref ao, .ref ai, .ref an, .int 0, .int 0]))] H := hP
  have hD : va_D A [(qx, .inr (4, [.ref qg, .ref qr, .ref qk, .ref ql])), (qg, .inr (0, [.ref ao, .ref ai, .ref an, .int 0, .int 0]))] := hD
  obtain rfl : r_2 = (0 : Int32) := hw
  have hPc := hP.sub (ws' := []) [] rfl
  have hDc := hD.sub (ws' := []) [] (by decide) rfl
  have hKc := hK.sub (tys' := []) [] rfl
  have hFc := va_free (wc := []) hD hS hA [] rfl
  refine va_calli (va_runSN (As := [.ref qg, .int (-1), .int 0, .int 0, .int 0]) (rest := []) ⟨hx, hb, hml, hown, hts⟩ (c_G_fewest l dC dI qg H.size) (⟨va_cnB 5 hts (gd_464) rfl rfl rfl (hN _ nw_462) (hts _ tw_56) (by decide +kernel) ⟨Nat.le_of_ble_eq_true rfl, Nat.le_of_ble_eq_true rfl⟩, hts _ tw_463, trivial⟩) ⟨cPre_blind, cPre_pre hPc hKc hDc hN⟩ rfl rfl hl.1 rfl (lv_room (Nat.le_of_ble_eq_true rfl)) d_p1_27_22 ⟨Nat.le_of_ble_eq_true rfl, Nat.le_of_ble_eq_true rfl⟩) hS (fun q _ h => hFc q h) hFc (fun r_3 u t H1 locs ht hvm hw hB hz1 hk1 hS => ?_)
  obtain ⟨hP1, hK1, hD1⟩ := hB
  rw [ht] at hP1
  obtain ⟨hP, hD⟩ := va_join (wr := [(qx, .inr (4, [.ref qg, .ref qr, .ref qk, .ref ql])), (qg, .inr (0, [.ref ao, .ref ai, .ref an, .int 0, .int 0]))]) (w1 := []) hP hD [] [0, 1] rfl rfl (by decide) (by decide) hk1 hFc hP1 hD1
  generalize H1 = H at hP hS ⊢
  have hP : va_P (dC, dI) classes [(qx, .inr (4, [.ref qg, .ref qr, .ref qk, .ref ql])), (qg, .inr (0, [.ref ao, .ref ai, .ref an, .int 0, .int 0]))] H := hP
  have hD : va_D A [(qx, .inr (4, [.ref qg, .ref qr, .ref qk, .ref ql])), (qg, .inr (0, [.ref ao, .ref ai, .ref an, .int 0, .int 0]))] := hD
  obtain rfl : r_3 = (0 : Int32) := hw
  have hP9 := hP.sub (ws' := []) [] rfl
  have hD9 := hD.sub (ws' := []) [] (by decide) rfl
  have hK9 := hK.sub (tys' := []) [] rfl
  exact W.iret (v := 0) hx hb hr (fun t ht hW => ⟨⟨0, (), rfl, rfl, cEnd_mk hP9 hK9 hD9 ht hW⟩, hS.F ht⟩) hS.2.2 d_p1_27_25

set_option maxHeartbeats 4000000 in
set_option maxRecDepth 100000 in
theorem c_X_of_0 (l : Launch) (dC : Nat → ClassId) (dI : Nat → Nat → Nat) (qx : Nat) (qg : Nat) (qr : Nat) (qk : Nat) (ql : Nat) (ao : Nat) (ai : Nat) (an : Nat) (sz : Nat) : Met l ({ cls := "StrongParts", name := "of", desc := "(I)I" } : Jvm.MethodName) (ww ({ cls := "StrongParts", name := "of", desc := "(I)I" } : Jvm.MethodName) prog_1_method_28_code 2 (some .int)) ({ frames := 0, cells := 0, slots := 0, locals := 0 }) (va_Pc [.ref qx, .int 0] (cPre (dC, dI) [(qx, .inr (4, [.ref qg, .ref qr, .ref qk, .ref ql])), (qg, .inr (0, [.ref ao, .ref ai, .ref an, .int 0, .int 0]))] [] sz)) (va_Qi (fun (r : Int32) (_ : Unit) => r = 0) (cEnd (dC, dI) [] [] (va_A [(qx, .inr (4, [.ref qg, .ref qr, .ref qk, .ref ql])), (qg, .inr (0, [.ref ao, .ref ai, .ref an, .int 0, .int 0]))] sz)) (va_A [(qx, .inr (4, [.ref qg, .ref qr, .ref qk, .ref ql])), (qg, .inr (0, [.ref ao, .ref ai, .ref an, .int 0, .int 0]))] sz)) 0 0 (va_A [(qx, .inr (4, [.ref qg, .ref qr, .ref qk, .ref ql])), (qg, .inr (0, [.ref ao, .ref ai, .ref an, .int 0, .int 0]))] sz) := by
  refine Met.ofW (cc := prog_1_method_28_code) (maxL := 2) (ret := (some .int)) (by decide) rfl ?_
  intro p e s m args below meth c s₁ B hml hv
  obtain ⟨rfl, hsz, hP, hK, hD0, hN⟩ := hv
  have hx := B.exec
  have hb := B.bytes
  have hr := B.returns
  have hts := ww_hts (atoms_spec (ws := ww ({ cls := "StrongParts", name := "of", desc := "(I)I" } : Jvm.MethodName) prog_1_method_28_code 2 (some .int)) B.pre)
  have hown : s.vm.findClass "StrongParts" = some m.cls := findClass_of_methodNamed B.named
  have hlocks := B.notSynchronized
  subst hsz
  have hD := hD0.self (sz := s.heap.size)
  generalize hAe : va_A [(qx, .inr (4, [.ref qg, .ref qr, .ref qk, .ref ql])), (qg, .inr (0, [.ref ao, .ref ai, .ref an, .int 0, .int 0]))] s.heap.size = A at hD ⊢
  have hA : ∀ q : Nat, s.heap.size ≤ q → A q := fun q h => by rw [← hAe]; exact Or.inr h
  have hS : va_S A s.heap s.heap [] := va_S.rf
  have hP : va_P (dC, dI) classes [(qx, .inr (4, [.ref qg, .ref qr, .ref qk, .ref ql])), (qg, .inr (0, [.ref ao, .ref ai, .ref an, .int 0, .int 0]))] s.heap := hP
  have hl := lv_entry ([.ref qx, .int 0]) (n := 2) (Nat.le_of_ble_eq_true rfl)
  rw [lg_entry_eq]
  generalize (lg_sl ([.ref qx, .int 0]) ++ List.replicate (2 - (lg_sl ([.ref qx, .int 0])).length) Slot.unset).toArray = ls at hl ⊢
  have hl : lv_has ls 2 [(0, .ref qx), (1, .int 0)] := hl
  refine lv_iload_n hx hb d_p1_28_0 rfl (lv_at hl 1 rfl) ?_
  refine lv_tableIn (off := 27) (tgt := 28) hx hb d_p1_28_1 (by decide) (by decide) (by decide) (by decide) ?_
  refine lv_aload_n hx hb d_p1_28_28 rfl (lv_at hl 0 rfl) ?_
  refine va_get (D := (dC, dI)) (ci := 4) (v := .ref qg) (C := "StrongParts") (T := T_4) (N := 4) hx hb hts in_4 hown hK hP 0 rfl rfl 0 (by decide) (hts _ tw_147) (fun _ h9 => h9) rfl d_p1_28_29 ?_
  refine va_getN (D := (dC, dI)) (ci := 0) (v := .int 0) (C := "StrongParts$Graph") (T := T_0) (N := 5) hx hb hts in_0 hown hK hP 1 rfl rfl 3 (by decide) (va_Nw.use rfl (hN _ nw_85)) (fun _ h9 => h9) rfl d_p1_28_32 ?_
  have hP9 := hP.sub (ws' := []) [] rfl
  have hD9 := hD.sub (ws' := []) [] (by decide) rfl
  have hK9 := hK.sub (tys' := []) [] rfl
  exact W.iret (v := 0) hx hb hr (fun t ht hW => ⟨⟨0, (), rfl, rfl, cEnd_mk hP9 hK9 hD9 ht hW⟩, hS.F ht⟩) hS.2.2 d_p1_28_35

set_option maxHeartbeats 4000000 in
set_option maxRecDepth 100000 in
theorem c_X_of_1 (l : Launch) (dC : Nat → ClassId) (dI : Nat → Nat → Nat) (qx : Nat) (qg : Nat) (qr : Nat) (qk : Nat) (ql : Nat) (ao : Nat) (ai : Nat) (an : Nat) (sz : Nat) : Met l ({ cls := "StrongParts", name := "of", desc := "(I)I" } : Jvm.MethodName) (ww ({ cls := "StrongParts", name := "of", desc := "(I)I" } : Jvm.MethodName) prog_1_method_28_code 2 (some .int)) ({ frames := 0, cells := 0, slots := 0, locals := 0 }) (va_Pc [.ref qx, .int 1] (cPre (dC, dI) [(qx, .inr (4, [.ref qg, .ref qr, .ref qk, .ref ql])), (qg, .inr (0, [.ref ao, .ref ai, .ref an, .int 0, .int 0]))] [] sz)) (va_Qi (fun (r : Int32) (_ : Unit) => r = 0) (cEnd (dC, dI) [] [] (va_A [(qx, .inr (4, [.ref qg, .ref qr, .ref qk, .ref ql])), (qg, .inr (0, [.ref ao, .ref ai, .ref an, .int 0, .int 0]))] sz)) (va_A [(qx, .inr (4, [.ref qg, .ref qr, .ref qk, .ref ql])), (qg, .inr (0, [.ref ao, .ref ai, .ref an, .int 0, .int 0]))] sz)) 0 0 (va_A [(qx, .inr (4, [.ref qg, .ref qr, .ref qk, .ref ql])), (qg, .inr (0, [.ref ao, .ref ai, .ref an, .int 0, .int 0]))] sz) := by
  refine Met.ofW (cc := prog_1_method_28_code) (maxL := 2) (ret := (some .int)) (by decide) rfl ?_
  intro p e s m args below meth c s₁ B hml hv
  obtain ⟨rfl, hsz, hP, hK, hD0, hN⟩ := hv
  have hx := B.exec
  have hb := B.bytes
  have hr := B.returns
  have hts := ww_hts (atoms_spec (ws := ww ({ cls := "StrongParts", name := "of", desc := "(I)I" } : Jvm.MethodName) prog_1_method_28_code 2 (some .int)) B.pre)
  have hown : s.vm.findClass "StrongParts" = some m.cls := findClass_of_methodNamed B.named
  have hlocks := B.notSynchronized
  subst hsz
  have hD := hD0.self (sz := s.heap.size)
  generalize hAe : va_A [(qx, .inr (4, [.ref qg, .ref qr, .ref qk, .ref ql])), (qg, .inr (0, [.ref ao, .ref ai, .ref an, .int 0, .int 0]))] s.heap.size = A at hD ⊢
  have hA : ∀ q : Nat, s.heap.size ≤ q → A q := fun q h => by rw [← hAe]; exact Or.inr h
  have hS : va_S A s.heap s.heap [] := va_S.rf
  have hP : va_P (dC, dI) classes [(qx, .inr (4, [.ref qg, .ref qr, .ref qk, .ref ql])), (qg, .inr (0, [.ref ao, .ref ai, .ref an, .int 0, .int 0]))] s.heap := hP
  have hl := lv_entry ([.ref qx, .int 1]) (n := 2) (Nat.le_of_ble_eq_true rfl)
  rw [lg_entry_eq]
  generalize (lg_sl ([.ref qx, .int 1]) ++ List.replicate (2 - (lg_sl ([.ref qx, .int 1])).length) Slot.unset).toArray = ls at hl ⊢
  have hl : lv_has ls 2 [(0, .ref qx), (1, .int 1)] := hl
  refine lv_iload_n hx hb d_p1_28_0 rfl (lv_at hl 1 rfl) ?_
  refine lv_tableIn (off := 35) (tgt := 36) hx hb d_p1_28_1 (by decide) (by decide) (by decide) (by decide) ?_
  refine lv_aload_n hx hb d_p1_28_36 rfl (lv_at hl 0 rfl) ?_
  refine va_get (D := (dC, dI)) (ci := 4) (v := .ref qg) (C := "StrongParts") (T := T_4) (N := 4) hx hb hts in_4 hown hK hP 0 rfl rfl 0 (by decide) (hts _ tw_147) (fun _ h9 => h9) rfl d_p1_28_37 ?_
  refine va_getN (D := (dC, dI)) (ci := 0) (v := .int 0) (C := "StrongParts$Graph") (T := T_0) (N := 5) hx hb hts in_0 hown hK hP 1 rfl rfl 4 (by decide) (va_Nw.use rfl (hN _ nw_89)) (fun _ h9 => h9) rfl d_p1_28_40 ?_
  have hP9 := hP.sub (ws' := []) [] rfl
  have hD9 := hD.sub (ws' := []) [] (by decide) rfl
  have hK9 := hK.sub (tys' := []) [] rfl
  exact W.iret (v := 0) hx hb hr (fun t ht hW => ⟨⟨0, (), rfl, rfl, cEnd_mk hP9 hK9 hD9 ht hW⟩, hS.F ht⟩) hS.2.2 d_p1_28_43

set_option maxHeartbeats 4000000 in
set_option maxRecDepth 100000 in
theorem c_X_of_2 (l : Launch) (dC : Nat → ClassId) (dI : Nat → Nat → Nat) (qx : Nat) (qg : Nat) (qr : Nat) (qk : Nat) (ql : Nat) (ao : Nat) (ai : Nat) (an : Nat) (sz : Nat) : Met l ({ cls := "StrongParts", name := "of", desc := "(I)I" } : Jvm.MethodName) (ww ({ cls := "StrongParts", name := "of", desc := "(I)I" } : Jvm.MethodName) prog_1_method_28_code 2 (some .int)) ({ frames := 1, cells := 0, slots := 0, locals := 23 }) (va_Pc [.ref qx, .int 2] (cPre (dC, dI) [(qx, .inr (4, [.ref qg, .ref qr, .ref qk, .ref ql])), (qg, .inr (0, [.ref ao, .ref ai, .ref an, .int 0, .int 0]))] [] sz)) (va_Qi (fun (r : Int32) (_ : Unit) => r = 0) (cEnd (dC, dI) [] [] (va_A [(qx, .inr (4, [.ref qg, .ref qr, .ref qk, .ref ql])), (qg, .inr (0, [.ref ao, .ref ai, .ref an, .int 0, .int 0]))] sz)) (va_A [(qx, .inr (4, [.ref qg, .ref qr, .ref qk, .ref ql])), (qg, .inr (0, [.ref ao, .ref ai, .ref an, .int 0, .int 0]))] sz)) 0 0 (va_A [(qx, .inr (4, [.ref qg, .ref qr, .ref qk, .ref ql])), (qg, .inr (0, [.ref ao, .ref ai, .ref an, .int 0, .int 0]))] sz) := by
  refine Met.ofW (cc := prog_1_method_28_code) (maxL := 2) (ret := (some .int)) (by decide) rfl ?_
  intro p e s m args below meth c s₁ B hml hv
  obtain ⟨rfl, hsz, hP, hK, hD0, hN⟩ := hv
  have hx := B.exec
  have hb := B.bytes
  have hr := B.returns
  have hts := ww_hts (atoms_spec (ws := ww ({ cls := "StrongParts", name := "of", desc := "(I)I" } : Jvm.MethodName) prog_1_method_28_code 2 (some .int)) B.pre)
  have hown : s.vm.findClass "StrongParts" = some m.cls := findClass_of_methodNamed B.named
  have hlocks := B.notSynchronized
  subst hsz
  have hD := hD0.self (sz := s.heap.size)
  generalize hAe : va_A [(qx, .inr (4, [.ref qg, .ref qr, .ref qk, .ref ql])), (qg, .inr (0, [.ref ao, .ref ai, .ref an, .int 0, .int 0]))] s.heap.size = A at hD ⊢
  have hA : ∀ q : Nat, s.heap.size ≤ q → A q := fun q h => by rw [← hAe]; exact Or.inr h
  have hS : va_S A s.heap s.heap [] := va_S.rf
  have hP : va_P (dC, dI) classes [(qx, .inr (4, [.ref qg, .ref qr, .ref qk, .ref ql])), (qg, .inr (0, [.ref ao, .ref ai, .ref an, .int 0, .int 0]))] s.heap := hP
  have hl := lv_entry ([.ref qx, .int 2]) (n := 2) (Nat.le_of_ble_eq_true rfl)
  rw [lg_entry_eq]
  generalize (lg_sl ([.ref qx, .int 2]) ++ List.replicate (2 - (lg_sl ([.ref qx, .int 2])).length) Slot.unset).toArray = ls at hl ⊢
  have hl : lv_has ls 2 [(0, .ref qx), (1, .int 2)] := hl
  refine lv_iload_n hx hb d_p1_28_0 rfl (lv_at hl 1 rfl) ?_
  refine lv_tableIn (off := 43) (tgt := 44) hx hb d_p1_28_1 (by decide) (by decide) (by decide) (by decide) ?_
  refine lv_aload_n hx hb d_p1_28_44 rfl (lv_at hl 0 rfl) ?_
  refine va_get (D := (dC, dI)) (ci := 4) (v := .ref qg) (C := "StrongParts") (T := T_4) (N := 4) hx hb hts in_4 hown hK hP 0 rfl rfl 0 (by decide) (hts _ tw_147) (fun _ h9 => h9) rfl d_p1_28_45 ?_
  have hPc := hP.sub (ws' := [(qg, .inr (0, [.ref ao, .ref ai, .ref an, .int 0, .int 0]))]) [1] rfl
  have hDc := hD.sub (ws' := [(qg, .inr (0, [.ref ao, .ref ai, .ref an, .int 0, .int 0]))]) [1] (by decide) rfl
  have hKc := hK.sub (tys' := []) [] rfl
  have hFc := va_free (wc := [(qg, .inr (0, [.ref ao, .ref ai, .ref an, .int 0, .int 0]))]) hD hS hA [1] rfl
  refine va_calli (va_runVN (As := []) (rest := []) ⟨hx, hb, hml, hown, hts⟩ (c_G_countNeeded l dC dI qg ao ai an s.heap.size) (⟨va_cnB 0 hts (gd_478) rfl rfl rfl (hN _ nw_475) (hts _ tw_56) (by decide +kernel) ⟨Nat.le_of_ble_eq_true rfl, Nat.le_of_ble_eq_true rfl⟩, hts _ tw_477, hts _ tw_35⟩) ⟨cPre_blind, va_recv hKc hPc (ci := 0) (q0 := 0) rfl rfl, cPre_pre hPc hKc hDc hN⟩ rfl rfl hl.1 rfl (lv_room (Nat.le_of_ble_eq_true rfl)) d_p1_28_48 ⟨Nat.le_of_ble_eq_true rfl, Nat.le_of_ble_eq_true rfl⟩) hS (fun q _ h => hFc q h) hFc (fun r_1 u t H1 locs ht hvm hw hB hz1 hk1 hS => ?_)
  obtain ⟨hP1, hK1, hD1⟩ := hB
  rw [ht] at hP1
  obtain ⟨hP, hD⟩ := va_join (wr := [(qx, .inr (4, [.ref qg, .ref qr, .ref qk, .ref ql]))]) (w1 := [(qg, .inr (0, [.ref ao, .ref ai, .ref an, .int 0, .int 0]))]) hP hD [1] [0] rfl rfl (by decide) (by decide) hk1 hFc hP1 hD1
  generalize H1 = H at hP hS ⊢
  have hP : va_P (dC, dI) classes [(qx, .inr (4, [.ref qg, .ref qr, .ref qk, .ref ql])), (qg, .inr (0, [.ref ao, .ref ai, .ref an, .int 0, .int 0]))] H := hP
  have hD : va_D A [(qx, .inr (4, [.ref qg, .ref qr, .ref qk, .ref ql])), (qg, .inr (0, [.ref ao, .ref ai, .ref an, .int 0, .int 0]))] := hD
  obtain rfl : r_1 = (0 : Int32) := hw
  have hP9 := hP.sub (ws' := []) [] rfl
  have hD9 := hD.sub (ws' := []) [] (by decide) rfl
  have hK9 := hK.sub (tys' := []) [] rfl
  exact W.iret (v := 0) hx hb hr (fun t ht hW => ⟨⟨0, (), rfl, rfl, cEnd_mk hP9 hK9 hD9 ht hW⟩, hS.F ht⟩) hS.2.2 d_p1_28_51

set_option maxHeartbeats 4000000 in
set_option maxRecDepth 100000 in
theorem c_X_of_bad (l : Launch) (dC : Nat → ClassId) (dI : Nat → Nat → Nat) (qx : Nat) (qg : Nat) (qr : Nat) (qk : Nat) (ql : Nat) (ao : Nat) (ai : Nat) (an : Nat) (p0 : Int32) (sz : Nat) (h : p0 < 0 ∨ 2 < p0) : Met l ({ cls := "StrongParts", name := "of", desc := "(I)I" } : Jvm.MethodName) (ww ({ cls := "StrongParts", name := "of", desc := "(I)I" } : Jvm.MethodName) prog_1_method_28_code 2 (some .int)) ({ frames := 0, cells := 0, slots := 0, locals := 0 }) (va_Pc [.ref qx, .int p0] (cPre (dC, dI) [(qx, .inr (4, [.ref qg, .ref qr, .ref qk, .ref ql])), (qg, .inr (0, [.ref ao, .ref ai, .ref an, .int 0, .int 0]))] [] sz)) (va_Qi (fun (r : Int32) (_ : Unit) => r = (-2)) (cEnd (dC, dI) [] [] (va_A [(qx, .inr (4, [.ref qg, .ref qr, .ref qk, .ref ql])), (qg, .inr (0, [.ref ao, .ref ai, .ref an, .int 0, .int 0]))] sz)) (va_A [(qx, .inr (4, [.ref qg, .ref qr, .ref qk, .ref ql])), (qg, .inr (0, [.ref ao, .ref ai, .ref an, .int 0, .int 0]))] sz)) 0 0 (va_A [(qx, .inr (4, [.ref qg, .ref qr, .ref qk, .ref ql])), (qg, .inr (0, [.ref ao, .ref ai, .ref an, .int 0, .int 0]))] sz) := by
  refine Met.ofW (cc := prog_1_method_28_code) (maxL := 2) (ret := (some .int)) (by decide) rfl ?_
  intro p e s m args below meth c s₁ B hml hv
  obtain ⟨rfl, hsz, hP, hK, hD0, hN⟩ := hv
  have hx := B.exec
  have hb := B.bytes
  have hr := B.returns
  have hts := ww_hts (atoms_spec (ws := ww ({ cls := "StrongParts", name := "of", desc := "(I)I" } : Jvm.MethodName) prog_1_method_28_code 2 (some .int)) B.pre)
  have hown : s.vm.findClass "StrongParts" = some m.cls := findClass_of_methodNamed B.named
  have hlocks := B.notSynchronized
  subst hsz
  have hD := hD0.self (sz := s.heap.size)
  generalize hAe : va_A [(qx, .inr (4, [.ref qg, .ref qr, .ref qk, .ref ql])), (qg, .inr (0, [.ref ao, .ref ai, .ref an, .int 0, .int 0]))] s.heap.size = A at hD ⊢
  have hA : ∀ q : Nat, s.heap.size ≤ q → A q := fun q h => by rw [← hAe]; exact Or.inr h
  have hS : va_S A s.heap s.heap [] := va_S.rf
  have hP : va_P (dC, dI) classes [(qx, .inr (4, [.ref qg, .ref qr, .ref qk, .ref ql])), (qg, .inr (0, [.ref ao, .ref ai, .ref an, .int 0, .int 0]))] s.heap := hP
  have hl := lv_entry ([.ref qx, .int p0]) (n := 2) (Nat.le_of_ble_eq_true rfl)
  rw [lg_entry_eq]
  generalize (lg_sl ([.ref qx, .int p0]) ++ List.replicate (2 - (lg_sl ([.ref qx, .int p0])).length) Slot.unset).toArray = ls at hl ⊢
  have hl : lv_has ls 2 [(0, .ref qx), (1, .int p0)] := hl
  refine lv_iload_n hx hb d_p1_28_0 rfl (lv_at hl 1 rfl) ?_
  refine lv_tableOut (tgt := 52) hx hb d_p1_28_1 (sw_out p0 h) (by decide) ?_
  refine lv_bipush (v := (-2)) hx hb d_p1_28_52 (by decide) ?_
  have hP9 := hP.sub (ws' := []) [] rfl
  have hD9 := hD.sub (ws' := []) [] (by decide) rfl
  have hK9 := hK.sub (tys' := []) [] rfl
  exact W.iret (v := (-2)) hx hb hr (fun t ht hW => ⟨⟨(-2), (), rfl, rfl, cEnd_mk hP9 hK9 hD9 ht hW⟩, hS.F ht⟩) hS.2.2 d_p1_28_54
