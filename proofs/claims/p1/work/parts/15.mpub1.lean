set_option maxHeartbeats 4000000 in
set_option maxRecDepth 100000 in
theorem c_M_knots (l : Launch) (dC : Nat → ClassId) (dI : Nat → Nat → Nat) (qm : Nat) (z_isArc : Nat) (z_reaches : Nat) (z_knotOf : Nat) (z_aheadOf : Nat) (z_rows : Nat) (z_deep : Nat) (z_left : Nat) (z_partOf : Nat) (z_sideOf : Nat) (z_isOdd : Nat) (z_row : Nat) (sz : Nat) : Met l ({ cls := "StrongPartsModel", name := "knots", desc := "()I" } : Jvm.MethodName) (ww ({ cls := "StrongPartsModel", name := "knots", desc := "()I" } : Jvm.MethodName) prog_7_method_14_code 1 (some .int)) ({ frames := 2, cells := 0, slots := 0, locals := 46 }) (va_Pc [.ref qm] (cPre (dC, dI) [(qm, .inr (5, [.int 0, .ref z_isArc, .ref z_reaches, .ref z_knotOf, .int 0, .ref z_aheadOf, .ref z_rows, .ref z_deep, .ref z_left, .ref z_partOf, .ref z_sideOf, .ref z_isOdd, .int 0, .ref z_row]))] [] sz)) (va_Qi (fun (r : Int32) (_ : Unit) => r = 0) (cEnd (dC, dI) [] [] (va_A [(qm, .inr (5, [.int 0, .ref z_isArc, .ref z_reaches, .ref z_knotOf, .int 0, .ref z_aheadOf, .ref z_rows, .ref z_deep, .ref z_left, .ref z_partOf, .ref z_sideOf, .ref z_isOdd, .int 0, .ref z_row]))] sz)) (va_A [(qm, .inr (5, [.int 0, .ref z_isArc, .ref z_reaches, .ref z_knotOf, .int 0, .ref z_aheadOf, .ref z_rows, .ref z_deep, .ref z_left, .ref z_partOf, .ref z_sideOf, .ref z_isOdd, .int 0, .ref z_row]))] sz)) 0 0 (va_A [(qm, .inr (5, [.int 0, .ref z_isArc, .ref z_reaches, .ref z_knotOf, .int 0, .ref z_aheadOf, .ref z_rows, .ref z_deep, .ref z_left, .ref z_partOf, .ref z_sideOf, .ref z_isOdd, .int 0, .ref z_row]))] sz) := by
  refine Met.ofW (cc := prog_7_method_14_code) (maxL := 1) (ret := (some .int)) (by decide) rfl ?_
  intro p e s m args below meth c s₁ B hml hv
  obtain ⟨rfl, hsz, hP, hK, hD0, hN⟩ := hv
  have hx := B.exec
  have hb := B.bytes
  have hr := B.returns
  have hts := ww_hts (atoms_spec (ws := ww ({ cls := "StrongPartsModel", name := "knots", desc := "()I" } : Jvm.MethodName) prog_7_method_14_code 1 (some .int)) B.pre)
  have hown : s.vm.findClass "StrongPartsModel" = some m.cls := findClass_of_methodNamed B.named
  have hlocks := B.notSynchronized
  subst hsz
  have hD := hD0.self (sz := s.heap.size)
  generalize hAe : va_A [(qm, .inr (5, [.int 0, .ref z_isArc, .ref z_reaches, .ref z_knotOf, .int 0, .ref z_aheadOf, .ref z_rows, .ref z_deep, .ref z_left, .ref z_partOf, .ref z_sideOf, .ref z_isOdd, .int 0, .ref z_row]))] s.heap.size = A at hD ⊢
  have hA : ∀ q : Nat, s.heap.size ≤ q → A q := fun q h => by rw [← hAe]; exact Or.inr h
  have hS : va_S A s.heap s.heap [] := va_S.rf
  have hP : va_P (dC, dI) classes [(qm, .inr (5, [.int 0, .ref z_isArc, .ref z_reaches, .ref z_knotOf, .int 0, .ref z_aheadOf, .ref z_rows, .ref z_deep, .ref z_left, .ref z_partOf, .ref z_sideOf, .ref z_isOdd, .int 0, .ref z_row]))] s.heap := hP
  have hl := lv_entry ([.ref qm]) (n := 1) (Nat.le_of_ble_eq_true rfl)
  rw [lg_entry_eq]
  generalize (lg_sl ([.ref qm]) ++ List.replicate (1 - (lg_sl ([.ref qm])).length) Slot.unset).toArray = ls at hl ⊢
  have hl : lv_has ls 1 [(0, .ref qm)] := hl
  refine lv_aload_n hx hb d_p7_14_0 rfl (lv_at hl 0 rfl) ?_
  have hPc := hP.sub (ws' := [(qm, .inr (5, [.int 0, .ref z_isArc, .ref z_reaches, .ref z_knotOf, .int 0, .ref z_aheadOf, .ref z_rows, .ref z_deep, .ref z_left, .ref z_partOf, .ref z_sideOf, .ref z_isOdd, .int 0, .ref z_row]))]) [0] rfl
  have hDc := hD.sub (ws' := [(qm, .inr (5, [.int 0, .ref z_isArc, .ref z_reaches, .ref z_knotOf, .int 0, .ref z_aheadOf, .ref z_rows, .ref z_deep, .ref z_left, .ref z_partOf, .ref z_sideOf, .ref z_isOdd, .int 0, .ref z_row]))]) [0] (by decide) rfl
  have hKc := hK.sub (tys' := []) [] rfl
  have hFc := va_free (wc := [(qm, .inr (5, [.int 0, .ref z_isArc, .ref z_reaches, .ref z_knotOf, .int 0, .ref z_aheadOf, .ref z_rows, .ref z_deep, .ref z_left, .ref z_partOf, .ref z_sideOf, .ref z_isOdd, .int 0, .ref z_row]))]) hD hS hA [0] rfl
  refine va_callv (va_runV (As := []) (rest := []) ⟨hx, hb, hml, hown, hts⟩ (c_M_tie l dC dI qm z_isArc z_reaches z_knotOf z_aheadOf z_rows z_deep z_left z_partOf z_sideOf z_isOdd z_row s.heap.size) (cwV 0 hts (gV gd_569 tw_566 tw_568 tw_39 tw_60) rfl rfl rfl (by decide +kernel) ⟨Nat.le_of_ble_eq_true rfl, Nat.le_of_ble_eq_true rfl⟩) ⟨cPre_blind, va_recv hKc hPc (ci := 5) (q0 := 0) rfl rfl, cPre_pre hPc hKc hDc hN⟩ rfl rfl hl.1 rfl (lv_room (Nat.le_of_ble_eq_true rfl)) d_p7_14_1 ⟨Nat.le_of_ble_eq_true rfl, Nat.le_of_ble_eq_true rfl⟩) hS (fun q _ h => hFc q h) hFc (fun u t H1 locs ht hvm hw hB hz1 hk1 hS => ?_)
  obtain ⟨hP1, hK1, hD1⟩ := hB
  rw [ht] at hP1
  obtain ⟨hP, hD⟩ := va_join (wr := []) (w1 := [(qm, .inr (5, [.int 0, .ref z_isArc, .ref z_reaches, .ref z_knotOf, .int 0, .ref z_aheadOf, .ref z_rows, .ref z_deep, .ref z_left, .ref z_partOf, .ref z_sideOf, .ref z_isOdd, .int 0, .ref z_row]))]) hP hD [0] [] rfl rfl (by decide) (by decide) hk1 hFc hP1 hD1
  generalize H1 = H at hP hS ⊢
  have hP : va_P (dC, dI) classes [(qm, .inr (5, [.int 0, .ref z_isArc, .ref z_reaches, .ref z_knotOf, .int 0, .ref z_aheadOf, .ref z_rows, .ref z_deep, .ref z_left, .ref z_partOf, .ref z_sideOf, .ref z_isOdd, .int 0, .ref z_row]))] H := hP
  have hD : va_D A [(qm, .inr (5, [.int 0, .ref z_isArc, .ref z_reaches, .ref z_knotOf, .int 0, .ref z_aheadOf, .ref z_rows, .ref z_deep, .ref z_left, .ref z_partOf, .ref z_sideOf, .ref z_isOdd, .int 0, .ref z_row]))] := hD
  refine lv_aload_n hx hb d_p7_14_4 rfl (lv_at hl 0 rfl) ?_
  refine va_get (D := (dC, dI)) (ci := 5) (v := .int 0) (C := "StrongPartsModel") (T := T_5) (N := 14) hx hb hts in_5 hown hK hP 0 rfl rfl 4 (by decide) (hts _ tw_491) (fun _ h9 => h9) rfl d_p7_14_5 ?_
  have hP9 := hP.sub (ws' := []) [] rfl
  have hD9 := hD.sub (ws' := []) [] (by decide) rfl
  have hK9 := hK.sub (tys' := []) [] rfl
  exact W.iret (v := 0) hx hb hr (fun t ht hW => ⟨⟨0, (), rfl, rfl, cEnd_mk hP9 hK9 hD9 ht hW⟩, hS.F ht⟩) hS.2.2 d_p7_14_8

set_option maxHeartbeats 4000000 in
set_option maxRecDepth 100000 in
theorem c_M_parts (l : Launch) (dC : Nat → ClassId) (dI : Nat → Nat → Nat) (qm : Nat) (z_isArc : Nat) (z_reaches : Nat) (z_knotOf : Nat) (z_aheadOf : Nat) (z_rows : Nat) (z_deep : Nat) (z_left : Nat) (z_partOf : Nat) (z_sideOf : Nat) (z_isOdd : Nat) (z_row : Nat) (sz : Nat) : Met l ({ cls := "StrongPartsModel", name := "parts", desc := "()I" } : Jvm.MethodName) (ww ({ cls := "StrongPartsModel", name := "parts", desc := "()I" } : Jvm.MethodName) prog_7_method_29_code 1 (some .int)) ({ frames := 1, cells := 0, slots := 0, locals := 21 }) (va_Pc [.ref qm] (cPre (dC, dI) [(qm, .inr (5, [.int 0, .ref z_isArc, .ref z_reaches, .ref z_knotOf, .int 0, .ref z_aheadOf, .ref z_rows, .ref z_deep, .ref z_left, .ref z_partOf, .ref z_sideOf, .ref z_isOdd, .int 0, .ref z_row]))] [] sz)) (va_Qi (fun (r : Int32) (_ : Unit) => r = 0) (cEnd (dC, dI) [] [] (va_A [(qm, .inr (5, [.int 0, .ref z_isArc, .ref z_reaches, .ref z_knotOf, .int 0, .ref z_aheadOf, .ref z_rows, .ref z_deep, .ref z_left, .ref z_partOf, .ref z_sideOf, .ref z_isOdd, .int 0, .ref z_row]))] sz)) (va_A [(qm, .inr (5, [.int 0, .ref z_isArc, .ref z_reaches, .ref z_knotOf, .int 0, .ref z_aheadOf, .ref z_rows, .ref z_deep, .ref z_left, .ref z_partOf, .ref z_sideOf, .ref z_isOdd, .int 0, .ref z_row]))] sz)) 0 0 (va_A [(qm, .inr (5, [.int 0, .ref z_isArc, .ref z_reaches, .ref z_knotOf, .int 0, .ref z_aheadOf, .ref z_rows, .ref z_deep, .ref z_left, .ref z_partOf, .ref z_sideOf, .ref z_isOdd, .int 0, .ref z_row]))] sz) := by
  refine Met.ofW (cc := prog_7_method_29_code) (maxL := 1) (ret := (some .int)) (by decide) rfl ?_
  intro p e s m args below meth c s₁ B hml hv
  obtain ⟨rfl, hsz, hP, hK, hD0, hN⟩ := hv
  have hx := B.exec
  have hb := B.bytes
  have hr := B.returns
  have hts := ww_hts (atoms_spec (ws := ww ({ cls := "StrongPartsModel", name := "parts", desc := "()I" } : Jvm.MethodName) prog_7_method_29_code 1 (some .int)) B.pre)
  have hown : s.vm.findClass "StrongPartsModel" = some m.cls := findClass_of_methodNamed B.named
  have hlocks := B.notSynchronized
  subst hsz
  have hD := hD0.self (sz := s.heap.size)
  generalize hAe : va_A [(qm, .inr (5, [.int 0, .ref z_isArc, .ref z_reaches, .ref z_knotOf, .int 0, .ref z_aheadOf, .ref z_rows, .ref z_deep, .ref z_left, .ref z_partOf, .ref z_sideOf, .ref z_isOdd, .int 0, .ref z_row]))] s.heap.size = A at hD ⊢
  have hA : ∀ q : Nat, s.heap.size ≤ q → A q := fun q h => by rw [← hAe]; exact Or.inr h
  have hS : va_S A s.heap s.heap [] := va_S.rf
  have hP : va_P (dC, dI) classes [(qm, .inr (5, [.int 0, .ref z_isArc, .ref z_reaches, .ref z_knotOf, .int 0, .ref z_aheadOf, .ref z_rows, .ref z_deep, .ref z_left, .ref z_partOf, .ref z_sideOf, .ref z_isOdd, .int 0, .ref z_row]))] s.heap := hP
  have hl := lv_entry ([.ref qm]) (n := 1) (Nat.le_of_ble_eq_true rfl)
  rw [lg_entry_eq]
  generalize (lg_sl ([.ref qm]) ++ List.replicate (1 - (lg_sl ([.ref qm])).length) Slot.unset).toArray = ls at hl ⊢
  have hl : lv_has ls 1 [(0, .ref qm)] := hl
  refine lv_aload_n hx hb d_p7_29_0 rfl (lv_at hl 0 rfl) ?_
  have hPc := hP.sub (ws' := [(qm, .inr (5, [.int 0, .ref z_isArc, .ref z_reaches, .ref z_knotOf, .int 0, .ref z_aheadOf, .ref z_rows, .ref z_deep, .ref z_left, .ref z_partOf, .ref z_sideOf, .ref z_isOdd, .int 0, .ref z_row]))]) [0] rfl
  have hDc := hD.sub (ws' := [(qm, .inr (5, [.int 0, .ref z_isArc, .ref z_reaches, .ref z_knotOf, .int 0, .ref z_aheadOf, .ref z_rows, .ref z_deep, .ref z_left, .ref z_partOf, .ref z_sideOf, .ref z_isOdd, .int 0, .ref z_row]))]) [0] (by decide) rfl
  have hKc := hK.sub (tys' := []) [] rfl
  have hFc := va_free (wc := [(qm, .inr (5, [.int 0, .ref z_isArc, .ref z_reaches, .ref z_knotOf, .int 0, .ref z_aheadOf, .ref z_rows, .ref z_deep, .ref z_left, .ref z_partOf, .ref z_sideOf, .ref z_isOdd, .int 0, .ref z_row]))]) hD hS hA [0] rfl
  refine va_callv (va_runV (As := []) (rest := []) ⟨hx, hb, hml, hown, hts⟩ (c_M_join l dC dI qm z_isArc z_reaches z_knotOf z_aheadOf z_rows z_deep z_left z_partOf z_sideOf z_isOdd z_row s.heap.size) (cwV 0 hts (gV gd_633 tw_630 tw_632 tw_45 tw_60) rfl rfl rfl (by decide +kernel) ⟨Nat.le_of_ble_eq_true rfl, Nat.le_of_ble_eq_true rfl⟩) ⟨cPre_blind, va_recv hKc hPc (ci := 5) (q0 := 0) rfl rfl, cPre_pre hPc hKc hDc hN⟩ rfl rfl hl.1 rfl (lv_room (Nat.le_of_ble_eq_true rfl)) d_p7_29_1 ⟨Nat.le_of_ble_eq_true rfl, Nat.le_of_ble_eq_true rfl⟩) hS (fun q _ h => hFc q h) hFc (fun u t H1 locs ht hvm hw hB hz1 hk1 hS => ?_)
  obtain ⟨hP1, hK1, hD1⟩ := hB
  rw [ht] at hP1
  obtain ⟨hP, hD⟩ := va_join (wr := []) (w1 := [(qm, .inr (5, [.int 0, .ref z_isArc, .ref z_reaches, .ref z_knotOf, .int 0, .ref z_aheadOf, .ref z_rows, .ref z_deep, .ref z_left, .ref z_partOf, .ref z_sideOf, .ref z_isOdd, .int 0, .ref z_row]))]) hP hD [0] [] rfl rfl (by decide) (by decide) hk1 hFc hP1 hD1
  generalize H1 = H at hP hS ⊢
  have hP : va_P (dC, dI) classes [(qm, .inr (5, [.int 0, .ref z_isArc, .ref z_reaches, .ref z_knotOf, .int 0, .ref z_aheadOf, .ref z_rows, .ref z_deep, .ref z_left, .ref z_partOf, .ref z_sideOf, .ref z_isOdd, .int 0, .ref z_row]))] H := hP
  have hD : va_D A [(qm, .inr (5, [.int 0, .ref z_isArc, .ref z_reaches, .ref z_knotOf, .int 0, .ref z_aheadOf, .ref z_rows, .ref z_deep, .ref z_left, .ref z_partOf, .ref z_sideOf, .ref z_isOdd, .int 0, .ref z_row]))] := hD
  refine lv_aload_n hx hb d_p7_29_4 rfl (lv_at hl 0 rfl) ?_
  refine va_get (D := (dC, dI)) (ci := 5) (v := .int 0) (C := "StrongPartsModel") (T := T_5) (N := 14) hx hb hts in_5 hown hK hP 0 rfl rfl 12 (by decide) (hts _ tw_499) (fun _ h9 => h9) rfl d_p7_29_5 ?_
  have hP9 := hP.sub (ws' := []) [] rfl
  have hD9 := hD.sub (ws' := []) [] (by decide) rfl
  have hK9 := hK.sub (tys' := []) [] rfl
  exact W.iret (v := 0) hx hb hr (fun t ht hW => ⟨⟨0, (), rfl, rfl, cEnd_mk hP9 hK9 hD9 ht hW⟩, hS.F ht⟩) hS.2.2 d_p7_29_8

set_option maxHeartbeats 4000000 in
set_option maxRecDepth 100000 in
theorem c_M_members (l : Launch) (dC : Nat → ClassId) (dI : Nat → Nat → Nat) (qm : Nat) (z_isArc : Nat) (z_reaches : Nat) (z_knotOf : Nat) (z_aheadOf : Nat) (z_rows : Nat) (z_deep : Nat) (z_left : Nat) (z_partOf : Nat) (z_sideOf : Nat) (z_isOdd : Nat) (z_row : Nat) (p0 : Int32) (sz : Nat) : Met l ({ cls := "StrongPartsModel", name := "members", desc := "(I)I" } : Jvm.MethodName) (ww ({ cls := "StrongPartsModel", name := "members", desc := "(I)I" } : Jvm.MethodName) prog_7_method_16_code 4 (some .int)) ({ frames := 2, cells := 0, slots := 0, locals := 46 }) (va_Pc [.ref qm, .int p0] (cPre (dC, dI) [(qm, .inr (5, [.int 0, .ref z_isArc, .ref z_reaches, .ref z_knotOf, .int 0, .ref z_aheadOf, .ref z_rows, .ref z_deep, .ref z_left, .ref z_partOf, .ref z_sideOf, .ref z_isOdd, .int 0, .ref z_row]))] [] sz)) (va_Qi (fun (r : Int32) (_ : Unit) => r = (-2)) (cEnd (dC, dI) [] [] (va_A [(qm, .inr (5, [.int 0, .ref z_isArc, .ref z_reaches, .ref z_knotOf, .int 0, .ref z_aheadOf, .ref z_rows, .ref z_deep, .ref z_left, .ref z_partOf, .ref z_sideOf, .ref z_isOdd, .int 0, .ref z_row]))] sz)) (va_A [(qm, .inr (5, [.int 0, .ref z_isArc, .ref z_reaches, .ref z_knotOf, .int 0, .ref z_aheadOf, .ref z_rows, .ref z_deep, .ref z_left, .ref z_partOf, .ref z_sideOf, .ref z_isOdd, .int 0, .ref z_row]))] sz)) 0 0 (va_A [(qm, .inr (5, [.int 0, .ref z_isArc, .ref z_reaches, .ref z_knotOf, .int 0, .ref z_aheadOf, .ref z_rows, .ref z_deep, .ref z_left, .ref z_partOf, .ref z_sideOf, .ref z_isOdd, .int 0, .ref z_row]))] sz) := by
  refine Met.ofW (cc := prog_7_method_16_code) (maxL := 4) (ret := (some .int)) (by decide) rfl ?_
  intro p e s m args below meth c s₁ B hml hv
  obtain ⟨rfl, hsz, hP, hK, hD0, hN⟩ := hv
  have hx := B.exec
  have hb := B.bytes
  have hr := B.returns
  have hts := ww_hts (atoms_spec (ws := ww ({ cls := "StrongPartsModel", name := "members", desc := "(I)I" } : Jvm.MethodName) prog_7_method_16_code 4 (some .int)) B.pre)
  have hown : s.vm.findClass "StrongPartsModel" = some m.cls := findClass_of_methodNamed B.named
  have hlocks := B.notSynchronized
  subst hsz
  have hD := hD0.self (sz := s.heap.size)
  generalize hAe : va_A [(qm, .inr (5, [.int 0, .ref z_isArc, .ref z_reaches, .ref z_knotOf, .int 0, .ref z_aheadOf, .ref z_rows, .ref z_deep, .ref z_left, .ref z_partOf, .ref z_sideOf, .ref z_isOdd, .int 0, .ref z_row]))] s.heap.size = A at hD ⊢
  have hA : ∀ q : Nat, s.heap.size ≤ q → A q := fun q h => by rw [← hAe]; exact Or.inr h
  have hS : va_S A s.heap s.heap [] := va_S.rf
  have hP : va_P (dC, dI) classes [(qm, .inr (5, [.int 0, .ref z_isArc, .ref z_reaches, .ref z_knotOf, .int 0, .ref z_aheadOf, .ref z_rows, .ref z_deep, .ref z_left, .ref z_partOf, .ref z_sideOf, .ref z_isOdd, .int 0, .ref z_row]))] s.heap := hP
  have hl := lv_entry ([.ref qm, .int p0]) (n := 4) (Nat.le_of_ble_eq_true rfl)
  rw [lg_entry_eq]
  generalize (lg_sl ([.ref qm, .int p0]) ++ List.replicate (4 - (lg_sl ([.ref qm, .int p0])).length) Slot.unset).toArray = ls at hl ⊢
  have hl : lv_has ls 4 [(0, .ref qm), (1, .int p0)] := hl
  refine lv_aload_n hx hb d_p7_16_0 rfl (lv_at hl 0 rfl) ?_
  have hPc := hP.sub (ws' := [(qm, .inr (5, [.int 0, .ref z_isArc, .ref z_reaches, .ref z_knotOf, .int 0, .ref z_aheadOf, .ref z_rows, .ref z_deep, .ref z_left, .ref z_partOf, .ref z_sideOf, .ref z_isOdd, .int 0, .ref z_row]))]) [0] rfl
  have hDc := hD.sub (ws' := [(qm, .inr (5, [.int 0, .ref z_isArc, .ref z_reaches, .ref z_knotOf, .int 0, .ref z_aheadOf, .ref z_rows, .ref z_deep, .ref z_left, .ref z_partOf, .ref z_sideOf, .ref z_isOdd, .int 0, .ref z_row]))]) [0] (by decide) rfl
  have hKc := hK.sub (tys' := []) [] rfl
  have hFc := va_free (wc := [(qm, .inr (5, [.int 0, .ref z_isArc, .ref z_reaches, .ref z_knotOf, .int 0, .ref z_aheadOf, .ref z_rows, .ref z_deep, .ref z_left, .ref z_partOf, .ref z_sideOf, .ref z_isOdd, .int 0, .ref z_row]))]) hD hS hA [0] rfl
  refine va_callv (va_runV (As := []) (rest := []) ⟨hx, hb, hml, hown, hts⟩ (c_M_tie l dC dI qm z_isArc z_reaches z_knotOf z_aheadOf z_rows z_deep z_left z_partOf z_sideOf z_isOdd z_row s.heap.size) (cwV 0 hts (gV gd_569 tw_566 tw_568 tw_39 tw_60) rfl rfl rfl (by decide +kernel) ⟨Nat.le_of_ble_eq_true rfl, Nat.le_of_ble_eq_true rfl⟩) ⟨cPre_blind, va_recv hKc hPc (ci := 5) (q0 := 0) rfl rfl, cPre_pre hPc hKc hDc hN⟩ rfl rfl hl.1 rfl (lv_room (Nat.le_of_ble_eq_true rfl)) d_p7_16_1 ⟨Nat.le_of_ble_eq_true rfl, Nat.le_of_ble_eq_true rfl⟩) hS (fun q _ h => hFc q h) hFc (fun u t H1 locs ht hvm hw hB hz1 hk1 hS => ?_)
  obtain ⟨hP1, hK1, hD1⟩ := hB
  rw [ht] at hP1
  obtain ⟨hP, hD⟩ := va_join (wr := []) (w1 := [(qm, .inr (5, [.int 0, .ref z_isArc, .ref z_reaches, .ref z_knotOf, .int 0, .ref z_aheadOf, .ref z_rows, .ref z_deep, .ref z_left, .ref z_partOf, .ref z_sideOf, .ref z_isOdd, .int 0, .ref z_row]))]) hP hD [0] [] rfl rfl (by decide) (by decide) hk1 hFc hP1 hD1
  generalize H1 = H at hP hS ⊢
  have hP : va_P (dC, dI) classes [(qm, .inr (5, [.int 0, .ref z_isArc, .ref z_reaches, .ref z_knotOf, .int 0, .ref z_aheadOf, .ref z_rows, .ref z_deep, .ref z_left, .ref z_partOf, .ref z_sideOf, .ref z_isOdd, .int 0, .ref z_row]))] H := hP
  have hD : va_D A [(qm, .inr (5, [.int 0, .ref z_isArc, .ref z_reaches, .ref z_knotOf, .int 0, .ref z_aheadOf, .ref z_rows, .ref z_deep, .ref z_left, .ref z_partOf, .ref z_sideOf, .ref z_isOdd, .int 0, .ref z_row]))] := hD
  refine lv_iload_n hx hb d_p7_16_4 rfl (lv_at hl 1 rfl) ?_
  refine lv_iconst (v := 0) hx hb d_p7_16_5 (by decide) ?_
  refine lv_aload_n hx hb d_p7_16_6 rfl (lv_at hl 0 rfl) ?_
  refine va_get (D := (dC, dI)) (ci := 5) (v := .int 0) (C := "StrongPartsModel") (T := T_5) (N := 14) hx hb hts in_5 hown hK hP 0 rfl rfl 4 (by decide) (hts _ tw_491) (fun _ h9 => h9) rfl d_p7_16_7 ?_
  refine lv_iconst (v := 1) hx hb d_p7_16_10 (by decide) ?_
  refine lv_isub hx hb d_p7_16_11 ?_
  refine lv_topi (fun z_2 ez_2 => ?_)
  obtain rfl : z_2 = ((-1) : Int32) := ez_2.trans (by decide)
  have hPc := hP.sub (ws' := []) [] rfl
  have hDc := hD.sub (ws' := []) [] (by decide) rfl
  have hKc := hK.sub (tys' := []) [] rfl
  have hFc := va_free (wc := []) hD hS hA [] rfl
  refine va_calli (va_runS (As := [.int p0, .int 0, .int (-1)]) (rest := []) ⟨hx, hb, hml, hown, hts⟩ (c_M_isIn_out l dC dI p0 0 (-1) H.size (out_m1 p0)) (va_cwS 3 hts (gS gd_549 tw_547 tw_548 tw_60) rfl rfl rfl (by decide +kernel) ⟨Nat.le_of_ble_eq_true rfl, Nat.le_of_ble_eq_true rfl⟩) ⟨cPre_blind, cPre_pre hPc hKc hDc hN⟩ rfl rfl hl.1 rfl (lv_room (Nat.le_of_ble_eq_true rfl)) d_p7_16_12 ⟨Nat.le_of_ble_eq_true rfl, Nat.le_of_ble_eq_true rfl⟩) hS (fun q _ h => hFc q h) hFc (fun r_3 u t H1 locs ht hvm hw hB hz1 hk1 hS => ?_)
  obtain ⟨hP1, hK1, hD1⟩ := hB
  rw [ht] at hP1
  obtain ⟨hP, hD⟩ := va_join (wr := [(qm, .inr (5, [.int 0, .ref z_isArc, .ref z_reaches, .ref z_knotOf, .int 0, .ref z_aheadOf, .ref z_rows, .ref z_deep, .ref z_left, .ref z_partOf, .ref z_sideOf, .ref z_isOdd, .int 0, .ref z_row]))]) (w1 := []) hP hD [] [0] rfl rfl (by decide) (by decide) hk1 hFc hP1 hD1
  generalize H1 = H at hP hS ⊢
  have hP : va_P (dC, dI) classes [(qm, .inr (5, [.int 0, .ref z_isArc, .ref z_reaches, .ref z_knotOf, .int 0, .ref z_aheadOf, .ref z_rows, .ref z_deep, .ref z_left, .ref z_partOf, .ref z_sideOf, .ref z_isOdd, .int 0, .ref z_row]))] H := hP
  have hD : va_D A [(qm, .inr (5, [.int 0, .ref z_isArc, .ref z_reaches, .ref z_knotOf, .int 0, .ref z_aheadOf, .ref z_rows, .ref z_deep, .ref z_left, .ref z_partOf, .ref z_sideOf, .ref z_isOdd, .int 0, .ref z_row]))] := hD
  obtain rfl : r_3 = (0 : Int32) := hw
  refine lv_if_ne (tgt := 21) hx hb d_p7_16_15 (by decide) (fun c => absurd c (by decide)) (fun _ => ?_)
  refine lv_bipush (v := (-2)) hx hb d_p7_16_18 (by decide) ?_
  have hP9 := hP.sub (ws' := []) [] rfl
  have hD9 := hD.sub (ws' := []) [] (by decide) rfl
  have hK9 := hK.sub (tys' := []) [] rfl
  exact W.iret (v := (-2)) hx hb hr (fun t ht hW => ⟨⟨(-2), (), rfl, rfl, cEnd_mk hP9 hK9 hD9 ht hW⟩, hS.F ht⟩) hS.2.2 d_p7_16_20

set_option maxHeartbeats 4000000 in
set_option maxRecDepth 100000 in
theorem c_M_order (l : Launch) (dC : Nat → ClassId) (dI : Nat → Nat → Nat) (qm : Nat) (z_isArc : Nat) (z_reaches : Nat) (z_knotOf : Nat) (z_aheadOf : Nat) (z_rows : Nat) (z_deep : Nat) (z_left : Nat) (z_partOf : Nat) (z_sideOf : Nat) (z_isOdd : Nat) (z_row : Nat) (p0 : Int32) (sz : Nat) : Met l ({ cls := "StrongPartsModel", name := "order", desc := "(I)I" } : Jvm.MethodName) (ww ({ cls := "StrongPartsModel", name := "order", desc := "(I)I" } : Jvm.MethodName) prog_7_method_18_code 5 (some .int)) ({ frames := 3, cells := 0, slots := 0, locals := 68 }) (va_Pc [.ref qm, .int p0] (cPre (dC, dI) [(qm, .inr (5, [.int 0, .ref z_isArc, .ref z_reaches, .ref z_knotOf, .int 0, .ref z_aheadOf, .ref z_rows, .ref z_deep, .ref z_left, .ref z_partOf, .ref z_sideOf, .ref z_isOdd, .int 0, .ref z_row]))] [] sz)) (va_Qi (fun (r : Int32) (_ : Unit) => r = (-2)) (cEnd (dC, dI) [] [] (va_A [(qm, .inr (5, [.int 0, .ref z_isArc, .ref z_reaches, .ref z_knotOf, .int 0, .ref z_aheadOf, .ref z_rows, .ref z_deep, .ref z_left, .ref z_partOf, .ref z_sideOf, .ref z_isOdd, .int 0, .ref z_row]))] sz)) (va_A [(qm, .inr (5, [.int 0, .ref z_isArc, .ref z_reaches, .ref z_knotOf, .int 0, .ref z_aheadOf, .ref z_rows, .ref z_deep, .ref z_left, .ref z_partOf, .ref z_sideOf, .ref z_isOdd, .int 0, .ref z_row]))] sz)) 0 0 (va_A [(qm, .inr (5, [.int 0, .ref z_isArc, .ref z_reaches, .ref z_knotOf, .int 0, .ref z_aheadOf, .ref z_rows, .ref z_deep, .ref z_left, .ref z_partOf, .ref z_sideOf, .ref z_isOdd, .int 0, .ref z_row]))] sz) := by
  refine Met.ofW (cc := prog_7_method_18_code) (maxL := 5) (ret := (some .int)) (by decide) rfl ?_
  intro p e s m args below meth c s₁ B hml hv
  obtain ⟨rfl, hsz, hP, hK, hD0, hN⟩ := hv
  have hx := B.exec
  have hb := B.bytes
  have hr := B.returns
  have hts := ww_hts (atoms_spec (ws := ww ({ cls := "StrongPartsModel", name := "order", desc := "(I)I" } : Jvm.MethodName) prog_7_method_18_code 5 (some .int)) B.pre)
  have hown : s.vm.findClass "StrongPartsModel" = some m.cls := findClass_of_methodNamed B.named
  have hlocks := B.notSynchronized
  subst hsz
  have hD := hD0.self (sz := s.heap.size)
  generalize hAe : va_A [(qm, .inr (5, [.int 0, .ref z_isArc, .ref z_reaches, .ref z_knotOf, .int 0, .ref z_aheadOf, .ref z_rows, .ref z_deep, .ref z_left, .ref z_partOf, .ref z_sideOf, .ref z_isOdd, .int 0, .ref z_row]))] s.heap.size = A at hD ⊢
  have hA : ∀ q : Nat, s.heap.size ≤ q → A q := fun q h => by rw [← hAe]; exact Or.inr h
  have hS : va_S A s.heap s.heap [] := va_S.rf
  have hP : va_P (dC, dI) classes [(qm, .inr (5, [.int 0, .ref z_isArc, .ref z_reaches, .ref z_knotOf, .int 0, .ref z_aheadOf, .ref z_rows, .ref z_deep, .ref z_left, .ref z_partOf, .ref z_sideOf, .ref z_isOdd, .int 0, .ref z_row]))] s.heap := hP
  have hl := lv_entry ([.ref qm, .int p0]) (n := 5) (Nat.le_of_ble_eq_true rfl)
  rw [lg_entry_eq]
  generalize (lg_sl ([.ref qm, .int p0]) ++ List.replicate (5 - (lg_sl ([.ref qm, .int p0])).length) Slot.unset).toArray = ls at hl ⊢
  have hl : lv_has ls 5 [(0, .ref qm), (1, .int p0)] := hl
  refine lv_aload_n hx hb d_p7_18_0 rfl (lv_at hl 0 rfl) ?_
  have hPc := hP.sub (ws' := [(qm, .inr (5, [.int 0, .ref z_isArc, .ref z_reaches, .ref z_knotOf, .int 0, .ref z_aheadOf, .ref z_rows, .ref z_deep, .ref z_left, .ref z_partOf, .ref z_sideOf, .ref z_isOdd, .int 0, .ref z_row]))]) [0] rfl
  have hDc := hD.sub (ws' := [(qm, .inr (5, [.int 0, .ref z_isArc, .ref z_reaches, .ref z_knotOf, .int 0, .ref z_aheadOf, .ref z_rows, .ref z_deep, .ref z_left, .ref z_partOf, .ref z_sideOf, .ref z_isOdd, .int 0, .ref z_row]))]) [0] (by decide) rfl
  have hKc := hK.sub (tys' := []) [] rfl
  have hFc := va_free (wc := [(qm, .inr (5, [.int 0, .ref z_isArc, .ref z_reaches, .ref z_knotOf, .int 0, .ref z_aheadOf, .ref z_rows, .ref z_deep, .ref z_left, .ref z_partOf, .ref z_sideOf, .ref z_isOdd, .int 0, .ref z_row]))]) hD hS hA [0] rfl
  refine va_callv (va_runV (As := []) (rest := []) ⟨hx, hb, hml, hown, hts⟩ (c_M_line l dC dI qm z_isArc z_reaches z_knotOf z_aheadOf z_rows z_deep z_left z_partOf z_sideOf z_isOdd z_row s.heap.size) (cwV 0 hts (gV gd_593 tw_590 tw_592 tw_42 tw_60) rfl rfl rfl (by decide +kernel) ⟨Nat.le_of_ble_eq_true rfl, Nat.le_of_ble_eq_true rfl⟩) ⟨cPre_blind, va_recv hKc hPc (ci := 5) (q0 := 0) rfl rfl, cPre_pre hPc hKc hDc hN⟩ rfl rfl hl.1 rfl (lv_room (Nat.le_of_ble_eq_true rfl)) d_p7_18_1 ⟨Nat.le_of_ble_eq_true rfl, Nat.le_of_ble_eq_true rfl⟩) hS (fun q _ h => hFc q h) hFc (fun u t H1 locs ht hvm hw hB hz1 hk1 hS => ?_)
  obtain ⟨hP1, hK1, hD1⟩ := hB
  rw [ht] at hP1
  obtain ⟨hP, hD⟩ := va_join (wr := []) (w1 := [(qm, .inr (5, [.int 0, .ref z_isArc, .ref z_reaches, .ref z_knotOf, .int 0, .ref z_aheadOf, .ref z_rows, .ref z_deep, .ref z_left, .ref z_partOf, .ref z_sideOf, .ref z_isOdd, .int 0, .ref z_row]))]) hP hD [0] [] rfl rfl (by decide) (by decide) hk1 hFc hP1 hD1
  generalize H1 = H at hP hS ⊢
  have hP : va_P (dC, dI) classes [(qm, .inr (5, [.int 0, .ref z_isArc, .ref z_reaches, .ref z_knotOf, .int 0, .ref z_aheadOf, .ref z_rows, .ref z_deep, .ref z_left, .ref z_partOf, .ref z_sideOf, .ref z_isOdd, .int 0, .ref z_row]))] H := hP
  have hD : va_D A [(qm, .inr (5, [.int 0, .ref z_isArc, .ref z_reaches, .ref z_knotOf, .int 0, .ref z_aheadOf, .ref z_rows, .ref z_deep, .ref z_left, .ref z_partOf, .ref z_sideOf, .ref z_isOdd, .int 0, .ref z_row]))] := hD
  refine lv_iload_n hx hb d_p7_18_4 rfl (lv_at hl 1 rfl) ?_
  refine lv_iconst (v := 0) hx hb d_p7_18_5 (by decide) ?_
  refine lv_aload_n hx hb d_p7_18_6 rfl (lv_at hl 0 rfl) ?_
  refine va_get (D := (dC, dI)) (ci := 5) (v := .int 0) (C := "StrongPartsModel") (T := T_5) (N := 14) hx hb hts in_5 hown hK hP 0 rfl rfl 4 (by decide) (hts _ tw_491) (fun _ h9 => h9) rfl d_p7_18_7 ?_
  refine lv_iconst (v := 1) hx hb d_p7_18_10 (by decide) ?_
  refine lv_isub hx hb d_p7_18_11 ?_
  refine lv_topi (fun z_2 ez_2 => ?_)
  obtain rfl : z_2 = ((-1) : Int32) := ez_2.trans (by decide)
  have hPc := hP.sub (ws' := []) [] rfl
  have hDc := hD.sub (ws' := []) [] (by decide) rfl
  have hKc := hK.sub (tys' := []) [] rfl
  have hFc := va_free (wc := []) hD hS hA [] rfl
  refine va_calli (va_runS (As := [.int p0, .int 0, .int (-1)]) (rest := []) ⟨hx, hb, hml, hown, hts⟩ (c_M_isIn_out l dC dI p0 0 (-1) H.size (out_m1 p0)) (va_cwS 3 hts (gS gd_549 tw_547 tw_548 tw_60) rfl rfl rfl (by decide +kernel) ⟨Nat.le_of_ble_eq_true rfl, Nat.le_of_ble_eq_true rfl⟩) ⟨cPre_blind, cPre_pre hPc hKc hDc hN⟩ rfl rfl hl.1 rfl (lv_room (Nat.le_of_ble_eq_true rfl)) d_p7_18_12 ⟨Nat.le_of_ble_eq_true rfl, Nat.le_of_ble_eq_true rfl⟩) hS (fun q _ h => hFc q h) hFc (fun r_3 u t H1 locs ht hvm hw hB hz1 hk1 hS => ?_)
  obtain ⟨hP1, hK1, hD1⟩ := hB
  rw [ht] at hP1
  obtain ⟨hP, hD⟩ := va_join (wr := [(qm, .inr (5, [.int 0, .ref z_isArc, .ref z_reaches, .ref z_knotOf, .int 0, .ref z_aheadOf, .ref z_rows, .ref z_deep, .ref z_left, .ref z_partOf, .ref z_sideOf, .ref z_isOdd, .int 0, .ref z_row]))]) (w1 := []) hP hD [] [0] rfl rfl (by decide) (by decide) hk1 hFc hP1 hD1
  generalize H1 = H at hP hS ⊢
  have hP : va_P (dC, dI) classes [(qm, .inr (5, [.int 0, .ref z_isArc, .ref z_reaches, .ref z_knotOf, .int 0, .ref z_aheadOf, .ref z_rows, .ref z_deep, .ref z_left, .ref z_partOf, .ref z_sideOf, .ref z_isOdd, .int 0, .ref z_row]))] H := hP
  have hD : va_D A [(qm, .inr (5, [.int 0, .ref z_isArc, .ref z_reaches, .ref z_knotOf, .int 0, .ref z_aheadOf, .ref z_rows, .ref z_deep, .ref z_left, .ref z_partOf, .ref z_sideOf, .ref z_isOdd, .int 0, .ref z_row]))] := hD
  obtain rfl : r_3 = (0 : Int32) := hw
  refine lv_if_ne (tgt := 21) hx hb d_p7_18_15 (by decide) (fun c => absurd c (by decide)) (fun _ => ?_)
  refine lv_bipush (v := (-2)) hx hb d_p7_18_18 (by decide) ?_
  have hP9 := hP.sub (ws' := []) [] rfl
  have hD9 := hD.sub (ws' := []) [] (by decide) rfl
  have hK9 := hK.sub (tys' := []) [] rfl
  exact W.iret (v := (-2)) hx hb hr (fun t ht hW => ⟨⟨(-2), (), rfl, rfl, cEnd_mk hP9 hK9 hD9 ht hW⟩, hS.F ht⟩) hS.2.2 d_p7_18_20

set_option maxHeartbeats 4000000 in
set_option maxRecDepth 100000 in
theorem c_M_orders (l : Launch) (dC : Nat → ClassId) (dI : Nat → Nat → Nat) (qm : Nat) (z_isArc : Nat) (z_reaches : Nat) (z_knotOf : Nat) (z_aheadOf : Nat) (z_rows : Nat) (z_deep : Nat) (z_left : Nat) (z_partOf : Nat) (z_sideOf : Nat) (z_isOdd : Nat) (z_row : Nat) (kz_rows : ClassId) (fz_rows : Nat → Int64) (sz : Nat) : Met l ({ cls := "StrongPartsModel", name := "orders", desc := "()J" } : Jvm.MethodName) (ww ({ cls := "StrongPartsModel", name := "orders", desc := "()J" } : Jvm.MethodName) prog_7_method_19_code 4 (some .long)) ({ frames := 3, cells := 0, slots := 0, locals := 68 }) (va_Pc [.ref qm] (cPre (dC, dI) [(qm, .inr (5, [.int 0, .ref z_isArc, .ref z_reaches, .ref z_knotOf, .int 0, .ref z_aheadOf, .ref z_rows, .ref z_deep, .ref z_left, .ref z_partOf, .ref z_sideOf, .ref z_isOdd, .int 0, .ref z_row])), (z_rows, .inl (kz_rows, 16384, .inr (.inl fz_rows)))] [(kz_rows, .long)] sz)) (va_Ql (fun (r : Int64) (_ : Unit) => r = 1) (cEnd (dC, dI) [] [] (va_A [(qm, .inr (5, [.int 0, .ref z_isArc, .ref z_reaches, .ref z_knotOf, .int 0, .ref z_aheadOf, .ref z_rows, .ref z_deep, .ref z_left, .ref z_partOf, .ref z_sideOf, .ref z_isOdd, .int 0, .ref z_row])), (z_rows, .inl (kz_rows, 16384, .inr (.inl fz_rows)))] sz)) (va_A [(qm, .inr (5, [.int 0, .ref z_isArc, .ref z_reaches, .ref z_knotOf, .int 0, .ref z_aheadOf, .ref z_rows, .ref z_deep, .ref z_left, .ref z_partOf, .ref z_sideOf, .ref z_isOdd, .int 0, .ref z_row])), (z_rows, .inl (kz_rows, 16384, .inr (.inl fz_rows)))] sz)) 0 0 (va_A [(qm, .inr (5, [.int 0, .ref z_isArc, .ref z_reaches, .ref z_knotOf, .int 0, .ref z_aheadOf, .ref z_rows, .ref z_deep, .ref z_left, .ref z_partOf, .ref z_sideOf, .ref z_isOdd, .int 0, .ref z_row])), (z_rows, .inl (kz_rows, 16384, .inr (.inl fz_rows)))] sz) := by
  refine Met.ofW (cc := prog_7_method_19_code) (maxL := 4) (ret := (some .long)) (by decide) rfl ?_
  intro p e s m args below meth c s₁ B hml hv
  obtain ⟨rfl, hsz, hP, hK, hD0, hN⟩ := hv
  have hx := B.exec
  have hb := B.bytes
  have hr := B.returns
  have hts := ww_hts (atoms_spec (ws := ww ({ cls := "StrongPartsModel", name := "orders", desc := "()J" } : Jvm.MethodName) prog_7_method_19_code 4 (some .long)) B.pre)
  have hown : s.vm.findClass "StrongPartsModel" = some m.cls := findClass_of_methodNamed B.named
  have hlocks := B.notSynchronized
  subst hsz
  have hD := hD0.self (sz := s.heap.size)
  generalize hAe : va_A [(qm, .inr (5, [.int 0, .ref z_isArc, .ref z_reaches, .ref z_knotOf, .int 0, .ref z_aheadOf, .ref z_rows, .ref z_deep, .ref z_left, .ref z_partOf, .ref z_sideOf, .ref z_isOdd, .int 0, .ref z_row])), (z_rows, .inl (kz_rows, 16384, .inr (.inl fz_rows)))] s.heap.size = A at hD ⊢
  have hA : ∀ q : Nat, s.heap.size ≤ q → A q := fun q h => by rw [← hAe]; exact Or.inr h
  have hS : va_S A s.heap s.heap [] := va_S.rf
  have hP : va_P (dC, dI) classes [(qm, .inr (5, [.int 0, .ref z_isArc, .ref z_reaches, .ref z_knotOf, .int 0, .ref z_aheadOf, .ref z_rows, .ref z_deep, .ref z_left, .ref z_partOf, .ref z_sideOf, .ref z_isOdd, .int 0, .ref z_row])), (z_rows, .inl (kz_rows, 16384, .inr (.inl fz_rows)))] s.heap := hP
  have hl := lv_entry ([.ref qm]) (n := 4) (Nat.le_of_ble_eq_true rfl)
  rw [lg_entry_eq]
  generalize (lg_sl ([.ref qm]) ++ List.replicate (4 - (lg_sl ([.ref qm])).length) Slot.unset).toArray = ls at hl ⊢
  have hl : lv_has ls 4 [(0, .ref qm)] := hl
  refine lv_aload_n hx hb d_p7_19_0 rfl (lv_at hl 0 rfl) ?_
  have hPc := hP.sub (ws' := [(qm, .inr (5, [.int 0, .ref z_isArc, .ref z_reaches, .ref z_knotOf, .int 0, .ref z_aheadOf, .ref z_rows, .ref z_deep, .ref z_left, .ref z_partOf, .ref z_sideOf, .ref z_isOdd, .int 0, .ref z_row]))]) [0] rfl
  have hDc := hD.sub (ws' := [(qm, .inr (5, [.int 0, .ref z_isArc, .ref z_reaches, .ref z_knotOf, .int 0, .ref z_aheadOf, .ref z_rows, .ref z_deep, .ref z_left, .ref z_partOf, .ref z_sideOf, .ref z_isOdd, .int 0, .ref z_row]))]) [0] (by decide) rfl
  have hKc := hK.sub (tys' := []) [] rfl
  have hFc := va_free (wc := [(qm, .inr (5, [.int 0, .ref z_isArc, .ref z_reaches, .ref z_knotOf, .int 0, .ref z_aheadOf, .ref z_rows, .ref z_deep, .ref z_left, .ref z_partOf, .ref z_sideOf, .ref z_isOdd, .int 0, .ref z_row]))]) hD hS hA [0] rfl
  refine va_callv (va_runV (As := []) (rest := []) ⟨hx, hb, hml, hown, hts⟩ (c_M_line l dC dI qm z_isArc z_reaches z_knotOf z_aheadOf z_rows z_deep z_left z_partOf z_sideOf z_isOdd z_row s.heap.size) (cwV 0 hts (gV gd_593 tw_590 tw_592 tw_42 tw_60) rfl rfl rfl (by decide +kernel) ⟨Nat.le_of_ble_eq_true rfl, Nat.le_of_ble_eq_true rfl⟩) ⟨cPre_blind, va_recv hKc hPc (ci := 5) (q0 := 0) rfl rfl, cPre_pre hPc hKc hDc hN⟩ rfl rfl hl.1 rfl (lv_room (Nat.le_of_ble_eq_true rfl)) d_p7_19_1 ⟨Nat.le_of_ble_eq_true rfl, Nat.le_of_ble_eq_true rfl⟩) hS (fun q _ h => hFc q h) hFc (fun u t H1 locs ht hvm hw hB hz1 hk1 hS => ?_)
  obtain ⟨hP1, hK1, hD1⟩ := hB
  rw [ht] at hP1
  obtain ⟨hP, hD⟩ := va_join (wr := [(z_rows, .inl (kz_rows, 16384, .inr (.inl fz_rows)))]) (w1 := [(qm, .inr (5, [.int 0, .ref z_isArc, .ref z_reaches, .ref z_knotOf, .int 0, .ref z_aheadOf, .ref z_rows, .ref z_deep, .ref z_left, .ref z_partOf, .ref z_sideOf, .ref z_isOdd, .int 0, .ref z_row]))]) hP hD [0] [1] rfl rfl (by decide) (by decide) hk1 hFc hP1 hD1
  generalize H1 = H at hP hS ⊢
  have hP : va_P (dC, dI) classes [(z_rows, .inl (kz_rows, 16384, .inr (.inl fz_rows))), (qm, .inr (5, [.int 0, .ref z_isArc, .ref z_reaches, .ref z_knotOf, .int 0, .ref z_aheadOf, .ref z_rows, .ref z_deep, .ref z_left, .ref z_partOf, .ref z_sideOf, .ref z_isOdd, .int 0, .ref z_row]))] H := hP
  have hD : va_D A [(z_rows, .inl (kz_rows, 16384, .inr (.inl fz_rows))), (qm, .inr (5, [.int 0, .ref z_isArc, .ref z_reaches, .ref z_knotOf, .int 0, .ref z_aheadOf, .ref z_rows, .ref z_deep, .ref z_left, .ref z_partOf, .ref z_sideOf, .ref z_isOdd, .int 0, .ref z_row]))] := hD
  refine lv_aload_n hx hb d_p7_19_4 rfl (lv_at hl 0 rfl) ?_
  refine va_get (D := (dC, dI)) (ci := 5) (v := .ref z_rows) (C := "StrongPartsModel") (T := T_5) (N := 14) hx hb hts in_5 hown hK hP 1 rfl rfl 6 (by decide) (hts _ tw_493) (fun _ h9 => h9) rfl d_p7_19_5 ?_
  refine lv_iconst (v := 0) hx hb d_p7_19_8 (by decide) ?_
  refine lv_lconst (v := 1) hx hb d_p7_19_9 (by decide) ?_
  refine va_last hx hb hK hP hD hS 0 0 rfl rfl (i := 0) (by unfold vp_in; decide) d_p7_19_10 (fun H locs hP hD hS => ?_)
  have hP : va_P (dC, dI) classes [(z_rows, .inl (kz_rows, 16384, .inr (.inl (vp_updL fz_rows (Int32.toNatClampNeg 0) 1)))), (qm, .inr (5, [.int 0, .ref z_isArc, .ref z_reaches, .ref z_knotOf, .int 0, .ref z_aheadOf, .ref z_rows, .ref z_deep, .ref z_left, .ref z_partOf, .ref z_sideOf, .ref z_isOdd, .int 0, .ref z_row]))] H := hP
  have hD : va_D A [(z_rows, .inl (kz_rows, 16384, .inr (.inl (vp_updL fz_rows (Int32.toNatClampNeg 0) 1)))), (qm, .inr (5, [.int 0, .ref z_isArc, .ref z_reaches, .ref z_knotOf, .int 0, .ref z_aheadOf, .ref z_rows, .ref z_deep, .ref z_left, .ref z_partOf, .ref z_sideOf, .ref z_isOdd, .int 0, .ref z_row]))] := hD
  refine lv_iconst (v := 1) hx hb d_p7_19_11 (by decide) ?_
  refine lv_istore_n (lv' := [(1, .int 1), (0, .ref qm)]) hx hb d_p7_19_12 rfl hl (by decide) rfl (fun ls hl => ?_)
  refine lv_iload_n hx hb d_p7_19_13 rfl (lv_at hl 0 rfl) ?_
  refine lv_iconst (v := 1) hx hb d_p7_19_14 (by decide) ?_
  refine lv_aload_n hx hb d_p7_19_15 rfl (lv_at hl 1 rfl) ?_
  refine va_get (D := (dC, dI)) (ci := 5) (v := .int 0) (C := "StrongPartsModel") (T := T_5) (N := 14) hx hb hts in_5 hown hK hP 1 rfl rfl 4 (by decide) (hts _ tw_491) (fun _ h9 => h9) rfl d_p7_19_16 ?_
  refine lv_ishl hx hb d_p7_19_19 ?_
  refine lv_topi (fun z_2 ez_2 => ?_)
  obtain rfl : z_2 = (1 : Int32) := ez_2.trans (by decide)
  refine lv_icmp_ge (tgt := 109) hx hb d_p7_19_20 (by decide) (fun _ => ?_) (fun c => absurd (by decide) c)
  refine lv_aload_n hx hb d_p7_19_109 rfl (lv_at hl 1 rfl) ?_
  refine va_get (D := (dC, dI)) (ci := 5) (v := .ref z_rows) (C := "StrongPartsModel") (T := T_5) (N := 14) hx hb hts in_5 hown hK hP 1 rfl rfl 6 (by decide) (hts _ tw_493) (fun _ h9 => h9) rfl d_p7_19_110 ?_
  refine lv_iconst (v := 1) hx hb d_p7_19_113 (by decide) ?_
  refine lv_aload_n hx hb d_p7_19_114 rfl (lv_at hl 1 rfl) ?_
  refine va_get (D := (dC, dI)) (ci := 5) (v := .int 0) (C := "StrongPartsModel") (T := T_5) (N := 14) hx hb hts in_5 hown hK hP 1 rfl rfl 4 (by decide) (hts _ tw_491) (fun _ h9 => h9) rfl d_p7_19_115 ?_
  refine lv_ishl hx hb d_p7_19_118 ?_
  refine lv_topi (fun z_3 ez_3 => ?_)
  obtain rfl : z_3 = (1 : Int32) := ez_3.trans (by decide)
  refine lv_iconst (v := 1) hx hb d_p7_19_119 (by decide) ?_
  refine lv_isub hx hb d_p7_19_120 ?_
  refine lv_topi (fun z_4 ez_4 => ?_)
  obtain rfl : z_4 = (0 : Int32) := ez_4.trans (by decide)
  refine va_lald hx hb hK hP 0 0 rfl rfl (i := 0) (by unfold vp_in; decide) d_p7_19_121 ?_
  refine lv_topl (fun z_5 ez_5 => ?_)
  obtain rfl : z_5 = (1 : Int64) := ez_5.trans (by simp [vp_updL])
  have hP9 := hP.sub (ws' := []) [] rfl
  have hD9 := hD.sub (ws' := []) [] (by decide) rfl
  have hK9 := hK.sub (tys' := []) [] rfl
  exact W.lret (v := 1) hx hb hr (fun t ht hW => ⟨⟨1, (), rfl, rfl, cEnd_mk hP9 hK9 hD9 ht hW⟩, hS.F ht⟩) hS.2.2 d_p7_19_122

set_option maxHeartbeats 4000000 in
set_option maxRecDepth 100000 in
theorem c_M_depth (l : Launch) (dC : Nat → ClassId) (dI : Nat → Nat → Nat) (qm : Nat) (z_isArc : Nat) (z_reaches : Nat) (z_knotOf : Nat) (z_aheadOf : Nat) (z_rows : Nat) (z_deep : Nat) (z_left : Nat) (z_partOf : Nat) (z_sideOf : Nat) (z_isOdd : Nat) (z_row : Nat) (sz : Nat) : Met l ({ cls := "StrongPartsModel", name := "depth", desc := "()I" } : Jvm.MethodName) (ww ({ cls := "StrongPartsModel", name := "depth", desc := "()I" } : Jvm.MethodName) prog_7_method_20_code 6 (some .int)) ({ frames := 3, cells := 0, slots := 0, locals := 68 }) (va_Pc [.ref qm] (cPre (dC, dI) [(qm, .inr (5, [.int 0, .ref z_isArc, .ref z_reaches, .ref z_knotOf, .int 0, .ref z_aheadOf, .ref z_rows, .ref z_deep, .ref z_left, .ref z_partOf, .ref z_sideOf, .ref z_isOdd, .int 0, .ref z_row]))] [] sz)) (va_Qi (fun (r : Int32) (_ : Unit) => r = 0) (cEnd (dC, dI) [] [] (va_A [(qm, .inr (5, [.int 0, .ref z_isArc, .ref z_reaches, .ref z_knotOf, .int 0, .ref z_aheadOf, .ref z_rows, .ref z_deep, .ref z_left, .ref z_partOf, .ref z_sideOf, .ref z_isOdd, .int 0, .ref z_row]))] sz)) (va_A [(qm, .inr (5, [.int 0, .ref z_isArc, .ref z_reaches, .ref z_knotOf, .int 0, .ref z_aheadOf, .ref z_rows, .ref z_deep, .ref z_left, .ref z_partOf, .ref z_sideOf, .ref z_isOdd, .int 0, .ref z_row]))] sz)) 0 0 (va_A [(qm, .inr (5, [.int 0, .ref z_isArc, .ref z_reaches, .ref z_knotOf, .int 0, .ref z_aheadOf, .ref z_rows, .ref z_deep, .ref z_left, .ref z_partOf, .ref z_sideOf, .ref z_isOdd, .int 0, .ref z_row]))] sz) := by
  refine Met.ofW (cc := prog_7_method_20_code) (maxL := 6) (ret := (some .int)) (by decide) rfl ?_
  intro p e s m args below meth c s₁ B hml hv
  obtain ⟨rfl, hsz, hP, hK, hD0, hN⟩ := hv
  have hx := B.exec
  have hb := B.bytes
  have hr := B.returns
  have hts := ww_hts (atoms_spec (ws := ww ({ cls := "StrongPartsModel", name := "depth", desc := "()I" } : Jvm.MethodName) prog_7_method_20_code 6 (some .int)) B.pre)
  have hown : s.vm.findClass "StrongPartsModel" = some m.cls := findClass_of_methodNamed B.named
  have hlocks := B.notSynchronized
  subst hsz
  have hD := hD0.self (sz := s.heap.size)
  generalize hAe : va_A [(qm, .inr (5, [.int 0, .ref z_isArc, .ref z_reaches, .ref z_knotOf, .int 0, .ref z_aheadOf, .ref z_rows, .ref z_deep, .ref z_left, .ref z_partOf, .ref z_sideOf, .ref z_isOdd, .int 0, .ref z_row]))] s.heap.size = A at hD ⊢
  have hA : ∀ q : Nat, s.heap.size ≤ q → A q := fun q h => by rw [← hAe]; exact Or.inr h
  have hS : va_S A s.heap s.heap [] := va_S.rf
  have hP : va_P (dC, dI) classes [(qm, .inr (5, [.int 0, .ref z_isArc, .ref z_reaches, .ref z_knotOf, .int 0, .ref z_aheadOf, .ref z_rows, .ref z_deep, .ref z_left, .ref z_partOf, .ref z_sideOf, .ref z_isOdd, .int 0, .ref z_row]))] s.heap := hP
  have hl := lv_entry ([.ref qm]) (n := 6) (Nat.le_of_ble_eq_true rfl)
  rw [lg_entry_eq]
  generalize (lg_sl ([.ref qm]) ++ List.replicate (6 - (lg_sl ([.ref qm])).length) Slot.unset).toArray = ls at hl ⊢
  have hl : lv_has ls 6 [(0, .ref qm)] := hl
  refine lv_aload_n hx hb d_p7_20_0 rfl (lv_at hl 0 rfl) ?_
  have hPc := hP.sub (ws' := [(qm, .inr (5, [.int 0, .ref z_isArc, .ref z_reaches, .ref z_knotOf, .int 0, .ref z_aheadOf, .ref z_rows, .ref z_deep, .ref z_left, .ref z_partOf, .ref z_sideOf, .ref z_isOdd, .int 0, .ref z_row]))]) [0] rfl
  have hDc := hD.sub (ws' := [(qm, .inr (5, [.int 0, .ref z_isArc, .ref z_reaches, .ref z_knotOf, .int 0, .ref z_aheadOf, .ref z_rows, .ref z_deep, .ref z_left, .ref z_partOf, .ref z_sideOf, .ref z_isOdd, .int 0, .ref z_row]))]) [0] (by decide) rfl
  have hKc := hK.sub (tys' := []) [] rfl
  have hFc := va_free (wc := [(qm, .inr (5, [.int 0, .ref z_isArc, .ref z_reaches, .ref z_knotOf, .int 0, .ref z_aheadOf, .ref z_rows, .ref z_deep, .ref z_left, .ref z_partOf, .ref z_sideOf, .ref z_isOdd, .int 0, .ref z_row]))]) hD hS hA [0] rfl
  refine va_callv (va_runV (As := []) (rest := []) ⟨hx, hb, hml, hown, hts⟩ (c_M_line l dC dI qm z_isArc z_reaches z_knotOf z_aheadOf z_rows z_deep z_left z_partOf z_sideOf z_isOdd z_row s.heap.size) (cwV 0 hts (gV gd_593 tw_590 tw_592 tw_42 tw_60) rfl rfl rfl (by decide +kernel) ⟨Nat.le_of_ble_eq_true rfl, Nat.le_of_ble_eq_true rfl⟩) ⟨cPre_blind, va_recv hKc hPc (ci := 5) (q0 := 0) rfl rfl, cPre_pre hPc hKc hDc hN⟩ rfl rfl hl.1 rfl (lv_room (Nat.le_of_ble_eq_true rfl)) d_p7_20_1 ⟨Nat.le_of_ble_eq_true rfl, Nat.le_of_ble_eq_true rfl⟩) hS (fun q _ h => hFc q h) hFc (fun u t H1 locs ht hvm hw hB hz1 hk1 hS => ?_)
  obtain ⟨hP1, hK1, hD1⟩ := hB
  rw [ht] at hP1
  obtain ⟨hP, hD⟩ := va_join (wr := []) (w1 := [(qm, .inr (5, [.int 0, .ref z_isArc, .ref z_reaches, .ref z_knotOf, .int 0, .ref z_aheadOf, .ref z_rows, .ref z_deep, .ref z_left, .ref z_partOf, .ref z_sideOf, .ref z_isOdd, .int 0, .ref z_row]))]) hP hD [0] [] rfl rfl (by decide) (by decide) hk1 hFc hP1 hD1
  generalize H1 = H at hP hS ⊢
  have hP : va_P (dC, dI) classes [(qm, .inr (5, [.int 0, .ref z_isArc, .ref z_reaches, .ref z_knotOf, .int 0, .ref z_aheadOf, .ref z_rows, .ref z_deep, .ref z_left, .ref z_partOf, .ref z_sideOf, .ref z_isOdd, .int 0, .ref z_row]))] H := hP
  have hD : va_D A [(qm, .inr (5, [.int 0, .ref z_isArc, .ref z_reaches, .ref z_knotOf, .int 0, .ref z_aheadOf, .ref z_rows, .ref z_deep, .ref z_left, .ref z_partOf, .ref z_sideOf, .ref z_isOdd, .int 0, .ref z_row]))] := hD
  refine lv_iconst (v := 0) hx hb d_p7_20_4 (by decide) ?_
  refine lv_istore_n (lv' := [(1, .int 0), (0, .ref qm)]) hx hb d_p7_20_5 rfl hl (by decide) rfl (fun ls hl => ?_)
  refine lv_iconst (v := 0) hx hb d_p7_20_6 (by decide) ?_
  refine lv_istore_n (lv' := [(2, .int 0), (1, .int 0), (0, .ref qm)]) hx hb d_p7_20_7 rfl hl (by decide) rfl (fun ls hl => ?_)
  refine lv_iload_n hx hb d_p7_20_8 rfl (lv_at hl 0 rfl) ?_
  refine lv_aload_n hx hb d_p7_20_9 rfl (lv_at hl 2 rfl) ?_
  refine va_get (D := (dC, dI)) (ci := 5) (v := .int 0) (C := "StrongPartsModel") (T := T_5) (N := 14) hx hb hts in_5 hown hK hP 0 rfl rfl 4 (by decide) (hts _ tw_491) (fun _ h9 => h9) rfl d_p7_20_10 ?_
  refine lv_icmp_ge (tgt := 29) hx hb d_p7_20_13 (by decide) (fun _ => ?_) (fun c => absurd (by decide) c)
  refine lv_iconst (v := 0) hx hb d_p7_20_29 (by decide) ?_
  refine lv_istore_n (lv' := [(2, .int 0), (1, .int 0), (0, .ref qm)]) hx hb d_p7_20_30 rfl hl (by decide) rfl (fun ls hl => ?_)
  refine lv_iload_n hx hb d_p7_20_31 rfl (lv_at hl 0 rfl) ?_
  refine lv_aload_n hx hb d_p7_20_32 rfl (lv_at hl 2 rfl) ?_
  refine va_get (D := (dC, dI)) (ci := 5) (v := .int 0) (C := "StrongPartsModel") (T := T_5) (N := 14) hx hb hts in_5 hown hK hP 0 rfl rfl 4 (by decide) (hts _ tw_491) (fun _ h9 => h9) rfl d_p7_20_33 ?_
  refine lv_icmp_ge (tgt := 169) hx hb d_p7_20_36 (by decide) (fun _ => ?_) (fun c => absurd (by decide) c)
  refine lv_iload_n hx hb d_p7_20_169 rfl (lv_at hl 1 rfl) ?_
  have hP9 := hP.sub (ws' := []) [] rfl
  have hD9 := hD.sub (ws' := []) [] (by decide) rfl
  have hK9 := hK.sub (tys' := []) [] rfl
  exact W.iret (v := 0) hx hb hr (fun t ht hW => ⟨⟨0, (), rfl, rfl, cEnd_mk hP9 hK9 hD9 ht hW⟩, hS.F ht⟩) hS.2.2 d_p7_20_170

set_option maxHeartbeats 4000000 in
set_option maxRecDepth 100000 in
theorem c_M_odd (l : Launch) (dC : Nat → ClassId) (dI : Nat → Nat → Nat) (qm : Nat) (z_isArc : Nat) (z_reaches : Nat) (z_knotOf : Nat) (z_aheadOf : Nat) (z_rows : Nat) (z_deep : Nat) (z_left : Nat) (z_partOf : Nat) (z_sideOf : Nat) (z_isOdd : Nat) (z_row : Nat) (sz : Nat) : Met l ({ cls := "StrongPartsModel", name := "odd", desc := "()I" } : Jvm.MethodName) (ww ({ cls := "StrongPartsModel", name := "odd", desc := "()I" } : Jvm.MethodName) prog_7_method_34_code 1 (some .int)) ({ frames := 2, cells := 0, slots := 0, locals := 43 }) (va_Pc [.ref qm] (cPre (dC, dI) [(qm, .inr (5, [.int 0, .ref z_isArc, .ref z_reaches, .ref z_knotOf, .int 0, .ref z_aheadOf, .ref z_rows, .ref z_deep, .ref z_left, .ref z_partOf, .ref z_sideOf, .ref z_isOdd, .int 0, .ref z_row]))] [] sz)) (va_Qi (fun (r : Int32) (_ : Unit) => r = (-1)) (cEnd (dC, dI) [] [] (va_A [(qm, .inr (5, [.int 0, .ref z_isArc, .ref z_reaches, .ref z_knotOf, .int 0, .ref z_aheadOf, .ref z_rows, .ref z_deep, .ref z_left, .ref z_partOf, .ref z_sideOf, .ref z_isOdd, .int 0, .ref z_row]))] sz)) (va_A [(qm, .inr (5, [.int 0, .ref z_isArc, .ref z_reaches, .ref z_knotOf, .int 0, .ref z_aheadOf, .ref z_rows, .ref z_deep, .ref z_left, .ref z_partOf, .ref z_sideOf, .ref z_isOdd, .int 0, .ref z_row]))] sz)) 0 0 (va_A [(qm, .inr (5, [.int 0, .ref z_isArc, .ref z_reaches, .ref z_knotOf, .int 0, .ref z_aheadOf, .ref z_rows, .ref z_deep, .ref z_left, .ref z_partOf, .ref z_sideOf, .ref z_isOdd, .int 0, .ref z_row]))] sz) := by
  refine Met.ofW (cc := prog_7_method_34_code) (maxL := 1) (ret := (some .int)) (by decide) rfl ?_
  intro p e s m args below meth c s₁ B hml hv
  obtain ⟨rfl, hsz, hP, hK, hD0, hN⟩ := hv
  have hx := B.exec
  have hb := B.bytes
  have hr := B.returns
  have hts := ww_hts (atoms_spec (ws := ww ({ cls := "StrongPartsModel", name := "odd", desc := "()I" } : Jvm.MethodName) prog_7_method_34_code 1 (some .int)) B.pre)
  have hown : s.vm.findClass "StrongPartsModel" = some m.cls := findClass_of_methodNamed B.named
  have hlocks := B.notSynchronized
  subst hsz
  have hD := hD0.self (sz := s.heap.size)
  generalize hAe : va_A [(qm, .inr (5, [.int 0, .ref z_isArc, .ref z_reaches, .ref z_knotOf, .int 0, .ref z_aheadOf, .ref z_rows, .ref z_deep, .ref z_left, .ref z_partOf, .ref z_sideOf, .ref z_isOdd, .int 0, .ref z_row]))] s.heap.size = A at hD ⊢
  have hA : ∀ q : Nat, s.heap.size ≤ q → A q := fun q h => by rw [← hAe]; exact Or.inr h
  have hS : va_S A s.heap s.heap [] := va_S.rf
  have hP : va_P (dC, dI) classes [(qm, .inr (5, [.int 0, .ref z_isArc, .ref z_reaches, .ref z_knotOf, .int 0, .ref z_aheadOf, .ref z_rows, .ref z_deep, .ref z_left, .ref z_partOf, .ref z_sideOf, .ref z_isOdd, .int 0, .ref z_row]))] s.heap := hP
  have hl := lv_entry ([.ref qm]) (n := 1) (Nat.le_of_ble_eq_true rfl)
  rw [lg_entry_eq]
  generalize (lg_sl ([.ref qm]) ++ List.replicate (1 - (lg_sl ([.ref qm])).length) Slot.unset).toArray = ls at hl ⊢
  have hl : lv_has ls 1 [(0, .ref qm)] := hl
  refine lv_aload_n hx hb d_p7_34_0 rfl (lv_at hl 0 rfl) ?_
  have hPc := hP.sub (ws' := [(qm, .inr (5, [.int 0, .ref z_isArc, .ref z_reaches, .ref z_knotOf, .int 0, .ref z_aheadOf, .ref z_rows, .ref z_deep, .ref z_left, .ref z_partOf, .ref z_sideOf, .ref z_isOdd, .int 0, .ref z_row]))]) [0] rfl
  have hDc := hD.sub (ws' := [(qm, .inr (5, [.int 0, .ref z_isArc, .ref z_reaches, .ref z_knotOf, .int 0, .ref z_aheadOf, .ref z_rows, .ref z_deep, .ref z_left, .ref z_partOf, .ref z_sideOf, .ref z_isOdd, .int 0, .ref z_row]))]) [0] (by decide) rfl
  have hKc := hK.sub (tys' := []) [] rfl
  have hFc := va_free (wc := [(qm, .inr (5, [.int 0, .ref z_isArc, .ref z_reaches, .ref z_knotOf, .int 0, .ref z_aheadOf, .ref z_rows, .ref z_deep, .ref z_left, .ref z_partOf, .ref z_sideOf, .ref z_isOdd, .int 0, .ref z_row]))]) hD hS hA [0] rfl
  refine va_calli (va_runV (As := []) (rest := []) ⟨hx, hb, hml, hown, hts⟩ (c_M_oddOne l dC dI qm z_isArc z_reaches z_knotOf z_aheadOf z_rows z_deep z_left z_partOf z_sideOf z_isOdd z_row s.heap.size) (cwV 0 hts (gV gd_657 tw_654 tw_656 tw_48 tw_60) rfl rfl rfl (by decide +kernel) ⟨Nat.le_of_ble_eq_true rfl, Nat.le_of_ble_eq_true rfl⟩) ⟨cPre_blind, va_recv hKc hPc (ci := 5) (q0 := 0) rfl rfl, cPre_pre hPc hKc hDc hN⟩ rfl rfl hl.1 rfl (lv_room (Nat.le_of_ble_eq_true rfl)) d_p7_34_1 ⟨Nat.le_of_ble_eq_true rfl, Nat.le_of_ble_eq_true rfl⟩) hS (fun q _ h => hFc q h) hFc (fun r_1 u t H1 locs ht hvm hw hB hz1 hk1 hS => ?_)
  obtain ⟨hP1, hK1, hD1⟩ := hB
  rw [ht] at hP1
  obtain ⟨hP, hD⟩ := va_join (wr := []) (w1 := [(qm, .inr (5, [.int 0, .ref z_isArc, .ref z_reaches, .ref z_knotOf, .int 0, .ref z_aheadOf, .ref z_rows, .ref z_deep, .ref z_left, .ref z_partOf, .ref z_sideOf, .ref z_isOdd, .int 0, .ref z_row]))]) hP hD [0] [] rfl rfl (by decide) (by decide) hk1 hFc hP1 hD1
  generalize H1 = H at hP hS ⊢
  have hP : va_P (dC, dI) classes [(qm, .inr (5, [.int 0, .ref z_isArc, .ref z_reaches, .ref z_knotOf, .int 0, .ref z_aheadOf, .ref z_rows, .ref z_deep, .ref z_left, .ref z_partOf, .ref z_sideOf, .ref z_isOdd, .int 0, .ref z_row]))] H := hP
  have hD : va_D A [(qm, .inr (5, [.int 0, .ref z_isArc, .ref z_reaches, .ref z_knotOf, .int 0, .ref z_aheadOf, .ref z_rows, .ref z_deep, .ref z_left, .ref z_partOf, .ref z_sideOf, .ref z_isOdd, .int 0, .ref z_row]))] := hD
  obtain rfl : r_1 = ((-1) : Int32) := hw
  have hP9 := hP.sub (ws' := []) [] rfl
  have hD9 := hD.sub (ws' := []) [] (by decide) rfl
  have hK9 := hK.sub (tys' := []) [] rfl
  exact W.iret (v := (-1)) hx hb hr (fun t ht hW => ⟨⟨(-1), (), rfl, rfl, cEnd_mk hP9 hK9 hD9 ht hW⟩, hS.F ht⟩) hS.2.2 d_p7_34_4

set_option maxHeartbeats 4000000 in
set_option maxRecDepth 100000 in
theorem c_M_ring (l : Launch) (dC : Nat → ClassId) (dI : Nat → Nat → Nat) (qm : Nat) (z_isArc : Nat) (z_reaches : Nat) (z_knotOf : Nat) (z_aheadOf : Nat) (z_rows : Nat) (z_deep : Nat) (z_left : Nat) (z_partOf : Nat) (z_sideOf : Nat) (z_isOdd : Nat) (z_row : Nat) (p0 : Int32) (sz : Nat) : Met l ({ cls := "StrongPartsModel", name := "ring", desc := "(I)I" } : Jvm.MethodName) (ww ({ cls := "StrongPartsModel", name := "ring", desc := "(I)I" } : Jvm.MethodName) prog_7_method_35_code 3 (some .int)) ({ frames := 2, cells := 0, slots := 0, locals := 43 }) (va_Pc [.ref qm, .int p0] (cPre (dC, dI) [(qm, .inr (5, [.int 0, .ref z_isArc, .ref z_reaches, .ref z_knotOf, .int 0, .ref z_aheadOf, .ref z_rows, .ref z_deep, .ref z_left, .ref z_partOf, .ref z_sideOf, .ref z_isOdd, .int 0, .ref z_row]))] [] sz)) (va_Qi (fun (r : Int32) (_ : Unit) => r = (-1)) (cEnd (dC, dI) [] [] (va_A [(qm, .inr (5, [.int 0, .ref z_isArc, .ref z_reaches, .ref z_knotOf, .int 0, .ref z_aheadOf, .ref z_rows, .ref z_deep, .ref z_left, .ref z_partOf, .ref z_sideOf, .ref z_isOdd, .int 0, .ref z_row]))] sz)) (va_A [(qm, .inr (5, [.int 0, .ref z_isArc, .ref z_reaches, .ref z_knotOf, .int 0, .ref z_aheadOf, .ref z_rows, .ref z_deep, .ref z_left, .ref z_partOf, .ref z_sideOf, .ref z_isOdd, .int 0, .ref z_row]))] sz)) 0 0 (va_A [(qm, .inr (5, [.int 0, .ref z_isArc, .ref z_reaches, .ref z_knotOf, .int 0, .ref z_aheadOf, .ref z_rows, .ref z_deep, .ref z_left, .ref z_partOf, .ref z_sideOf, .ref z_isOdd, .int 0, .ref z_row]))] sz) := by
  refine Met.ofW (cc := prog_7_method_35_code) (maxL := 3) (ret := (some .int)) (by decide) rfl ?_
  intro p e s m args below meth c s₁ B hml hv
  obtain ⟨rfl, hsz, hP, hK, hD0, hN⟩ := hv
  have hx := B.exec
  have hb := B.bytes
  have hr := B.returns
  have hts := ww_hts (atoms_spec (ws := ww ({ cls := "StrongPartsModel", name := "ring", desc := "(I)I" } : Jvm.MethodName) prog_7_method_35_code 3 (some .int)) B.pre)
  have hown : s.vm.findClass "StrongPartsModel" = some m.cls := findClass_of_methodNamed B.named
  have hlocks := B.notSynchronized
  subst hsz
  have hD := hD0.self (sz := s.heap.size)
  generalize hAe : va_A [(qm, .inr (5, [.int 0, .ref z_isArc, .ref z_reaches, .ref z_knotOf, .int 0, .ref z_aheadOf, .ref z_rows, .ref z_deep, .ref z_left, .ref z_partOf, .ref z_sideOf, .ref z_isOdd, .int 0, .ref z_row]))] s.heap.size = A at hD ⊢
  have hA : ∀ q : Nat, s.heap.size ≤ q → A q := fun q h => by rw [← hAe]; exact Or.inr h
  have hS : va_S A s.heap s.heap [] := va_S.rf
  have hP : va_P (dC, dI) classes [(qm, .inr (5, [.int 0, .ref z_isArc, .ref z_reaches, .ref z_knotOf, .int 0, .ref z_aheadOf, .ref z_rows, .ref z_deep, .ref z_left, .ref z_partOf, .ref z_sideOf, .ref z_isOdd, .int 0, .ref z_row]))] s.heap := hP
  have hl := lv_entry ([.ref qm, .int p0]) (n := 3) (Nat.le_of_ble_eq_true rfl)
  rw [lg_entry_eq]
  generalize (lg_sl ([.ref qm, .int p0]) ++ List.replicate (3 - (lg_sl ([.ref qm, .int p0])).length) Slot.unset).toArray = ls at hl ⊢
  have hl : lv_has ls 3 [(0, .ref qm), (1, .int p0)] := hl
  refine lv_aload_n hx hb d_p7_35_0 rfl (lv_at hl 0 rfl) ?_
  have hPc := hP.sub (ws' := [(qm, .inr (5, [.int 0, .ref z_isArc, .ref z_reaches, .ref z_knotOf, .int 0, .ref z_aheadOf, .ref z_rows, .ref z_deep, .ref z_left, .ref z_partOf, .ref z_sideOf, .ref z_isOdd, .int 0, .ref z_row]))]) [0] rfl
  have hDc := hD.sub (ws' := [(qm, .inr (5, [.int 0, .ref z_isArc, .ref z_reaches, .ref z_knotOf, .int 0, .ref z_aheadOf, .ref z_rows, .ref z_deep, .ref z_left, .ref z_partOf, .ref z_sideOf, .ref z_isOdd, .int 0, .ref z_row]))]) [0] (by decide) rfl
  have hKc := hK.sub (tys' := []) [] rfl
  have hFc := va_free (wc := [(qm, .inr (5, [.int 0, .ref z_isArc, .ref z_reaches, .ref z_knotOf, .int 0, .ref z_aheadOf, .ref z_rows, .ref z_deep, .ref z_left, .ref z_partOf, .ref z_sideOf, .ref z_isOdd, .int 0, .ref z_row]))]) hD hS hA [0] rfl
  refine va_calli (va_runV (As := []) (rest := []) ⟨hx, hb, hml, hown, hts⟩ (c_M_oddOne l dC dI qm z_isArc z_reaches z_knotOf z_aheadOf z_rows z_deep z_left z_partOf z_sideOf z_isOdd z_row s.heap.size) (cwV 0 hts (gV gd_657 tw_654 tw_656 tw_48 tw_60) rfl rfl rfl (by decide +kernel) ⟨Nat.le_of_ble_eq_true rfl, Nat.le_of_ble_eq_true rfl⟩) ⟨cPre_blind, va_recv hKc hPc (ci := 5) (q0 := 0) rfl rfl, cPre_pre hPc hKc hDc hN⟩ rfl rfl hl.1 rfl (lv_room (Nat.le_of_ble_eq_true rfl)) d_p7_35_1 ⟨Nat.le_of_ble_eq_true rfl, Nat.le_of_ble_eq_true rfl⟩) hS (fun q _ h => hFc q h) hFc (fun r_1 u t H1 locs ht hvm hw hB hz1 hk1 hS => ?_)
  obtain ⟨hP1, hK1, hD1⟩ := hB
  rw [ht] at hP1
  obtain ⟨hP, hD⟩ := va_join (wr := []) (w1 := [(qm, .inr (5, [.int 0, .ref z_isArc, .ref z_reaches, .ref z_knotOf, .int 0, .ref z_aheadOf, .ref z_rows, .ref z_deep, .ref z_left, .ref z_partOf, .ref z_sideOf, .ref z_isOdd, .int 0, .ref z_row]))]) hP hD [0] [] rfl rfl (by decide) (by decide) hk1 hFc hP1 hD1
  generalize H1 = H at hP hS ⊢
  have hP : va_P (dC, dI) classes [(qm, .inr (5, [.int 0, .ref z_isArc, .ref z_reaches, .ref z_knotOf, .int 0, .ref z_aheadOf, .ref z_rows, .ref z_deep, .ref z_left, .ref z_partOf, .ref z_sideOf, .ref z_isOdd, .int 0, .ref z_row]))] H := hP
  have hD : va_D A [(qm, .inr (5, [.int 0, .ref z_isArc, .ref z_reaches, .ref z_knotOf, .int 0, .ref z_aheadOf, .ref z_rows, .ref z_deep, .ref z_left, .ref z_partOf, .ref z_sideOf, .ref z_isOdd, .int 0, .ref z_row]))] := hD
  obtain rfl : r_1 = ((-1) : Int32) := hw
  refine lv_istore_n (lv' := [(2, .int (-1)), (0, .ref qm), (1, .int p0)]) hx hb d_p7_35_4 rfl hl (by decide) rfl (fun ls hl => ?_)
  refine lv_iload_n hx hb d_p7_35_5 rfl (lv_at hl 2 rfl) ?_
  refine lv_iconst (v := 0) hx hb d_p7_35_6 (by decide) ?_
  refine lv_iload_n hx hb d_p7_35_7 rfl (lv_at hl 0 rfl) ?_
  refine lv_iconst (v := 1) hx hb d_p7_35_8 (by decide) ?_
  refine lv_isub hx hb d_p7_35_9 ?_
  refine lv_topi (fun z_2 ez_2 => ?_)
  obtain rfl : z_2 = ((-2) : Int32) := ez_2.trans (by decide)
  have hPc := hP.sub (ws' := []) [] rfl
  have hDc := hD.sub (ws' := []) [] (by decide) rfl
  have hKc := hK.sub (tys' := []) [] rfl
  have hFc := va_free (wc := []) hD hS hA [] rfl
  refine va_calli (va_runS (As := [.int p0, .int 0, .int (-2)]) (rest := []) ⟨hx, hb, hml, hown, hts⟩ (c_M_isIn_out l dC dI p0 0 (-2) H.size (out_m2 p0)) (va_cwS 3 hts (gS gd_549 tw_547 tw_548 tw_60) rfl rfl rfl (by decide +kernel) ⟨Nat.le_of_ble_eq_true rfl, Nat.le_of_ble_eq_true rfl⟩) ⟨cPre_blind, cPre_pre hPc hKc hDc hN⟩ rfl rfl hl.1 rfl (lv_room (Nat.le_of_ble_eq_true rfl)) d_p7_35_10 ⟨Nat.le_of_ble_eq_true rfl, Nat.le_of_ble_eq_true rfl⟩) hS (fun q _ h => hFc q h) hFc (fun r_3 u t H1 locs ht hvm hw hB hz1 hk1 hS => ?_)
  obtain ⟨hP1, hK1, hD1⟩ := hB
  rw [ht] at hP1
  obtain ⟨hP, hD⟩ := va_join (wr := [(qm, .inr (5, [.int 0, .ref z_isArc, .ref z_reaches, .ref z_knotOf, .int 0, .ref z_aheadOf, .ref z_rows, .ref z_deep, .ref z_left, .ref z_partOf, .ref z_sideOf, .ref z_isOdd, .int 0, .ref z_row]))]) (w1 := []) hP hD [] [0] rfl rfl (by decide) (by decide) hk1 hFc hP1 hD1
  generalize H1 = H at hP hS ⊢
  have hP : va_P (dC, dI) classes [(qm, .inr (5, [.int 0, .ref z_isArc, .ref z_reaches, .ref z_knotOf, .int 0, .ref z_aheadOf, .ref z_rows, .ref z_deep, .ref z_left, .ref z_partOf, .ref z_sideOf, .ref z_isOdd, .int 0, .ref z_row]))] H := hP
  have hD : va_D A [(qm, .inr (5, [.int 0, .ref z_isArc, .ref z_reaches, .ref z_knotOf, .int 0, .ref z_aheadOf, .ref z_rows, .ref z_deep, .ref z_left, .ref z_partOf, .ref z_sideOf, .ref z_isOdd, .int 0, .ref z_row]))] := hD
  obtain rfl : r_3 = (0 : Int32) := hw
  refine lv_if_eq (tgt := 25) hx hb d_p7_35_13 (by decide) (fun _ => ?_) (fun c => absurd (by decide) c)
  refine lv_iconst (v := (-1)) hx hb d_p7_35_25 (by decide) ?_
  have hP9 := hP.sub (ws' := []) [] rfl
  have hD9 := hD.sub (ws' := []) [] (by decide) rfl
  have hK9 := hK.sub (tys' := []) [] rfl
  exact W.iret (v := (-1)) hx hb hr (fun t ht hW => ⟨⟨(-1), (), rfl, rfl, cEnd_mk hP9 hK9 hD9 ht hW⟩, hS.F ht⟩) hS.2.2 d_p7_35_26

set_option maxHeartbeats 4000000 in
set_option maxRecDepth 100000 in
theorem c_M_adding (l : Launch) (dC : Nat → ClassId) (dI : Nat → Nat → Nat) (qm : Nat) (z_isArc : Nat) (z_reaches : Nat) (z_knotOf : Nat) (z_aheadOf : Nat) (z_rows : Nat) (z_deep : Nat) (z_left : Nat) (z_partOf : Nat) (z_sideOf : Nat) (z_isOdd : Nat) (z_row : Nat) (sz : Nat) : Met l ({ cls := "StrongPartsModel", name := "adding", desc := "()I" } : Jvm.MethodName) (ww ({ cls := "StrongPartsModel", name := "adding", desc := "()I" } : Jvm.MethodName) prog_7_method_36_code 6 (some .int)) ({ frames := 3, cells := 0, slots := 0, locals := 68 }) (va_Pc [.ref qm] (cPre (dC, dI) [(qm, .inr (5, [.int 0, .ref z_isArc, .ref z_reaches, .ref z_knotOf, .int 0, .ref z_aheadOf, .ref z_rows, .ref z_deep, .ref z_left, .ref z_partOf, .ref z_sideOf, .ref z_isOdd, .int 0, .ref z_row]))] [] sz)) (va_Qi (fun (r : Int32) (_ : Unit) => r = 0) (cEnd (dC, dI) [] [] (va_A [(qm, .inr (5, [.int 0, .ref z_isArc, .ref z_reaches, .ref z_knotOf, .int 0, .ref z_aheadOf, .ref z_rows, .ref z_deep, .ref z_left, .ref z_partOf, .ref z_sideOf, .ref z_isOdd, .int 0, .ref z_row]))] sz)) (va_A [(qm, .inr (5, [.int 0, .ref z_isArc, .ref z_reaches, .ref z_knotOf, .int 0, .ref z_aheadOf, .ref z_rows, .ref z_deep, .ref z_left, .ref z_partOf, .ref z_sideOf, .ref z_isOdd, .int 0, .ref z_row]))] sz)) 0 0 (va_A [(qm, .inr (5, [.int 0, .ref z_isArc, .ref z_reaches, .ref z_knotOf, .int 0, .ref z_aheadOf, .ref z_rows, .ref z_deep, .ref z_left, .ref z_partOf, .ref z_sideOf, .ref z_isOdd, .int 0, .ref z_row]))] sz) := by
  refine Met.ofW (cc := prog_7_method_36_code) (maxL := 6) (ret := (some .int)) (by decide) rfl ?_
  intro p e s m args below meth c s₁ B hml hv
  obtain ⟨rfl, hsz, hP, hK, hD0, hN⟩ := hv
  have hx := B.exec
  have hb := B.bytes
  have hr := B.returns
  have hts := ww_hts (atoms_spec (ws := ww ({ cls := "StrongPartsModel", name := "adding", desc := "()I" } : Jvm.MethodName) prog_7_method_36_code 6 (some .int)) B.pre)
  have hown : s.vm.findClass "StrongPartsModel" = some m.cls := findClass_of_methodNamed B.named
  have hlocks := B.notSynchronized
  subst hsz
  have hD := hD0.self (sz := s.heap.size)
  generalize hAe : va_A [(qm, .inr (5, [.int 0, .ref z_isArc, .ref z_reaches, .ref z_knotOf, .int 0, .ref z_aheadOf, .ref z_rows, .ref z_deep, .ref z_left, .ref z_partOf, .ref z_sideOf, .ref z_isOdd, .int 0, .ref z_row]))] s.heap.size = A at hD ⊢
  have hA : ∀ q : Nat, s.heap.size ≤ q → A q := fun q h => by rw [← hAe]; exact Or.inr h
  have hS : va_S A s.heap s.heap [] := va_S.rf
  have hP : va_P (dC, dI) classes [(qm, .inr (5, [.int 0, .ref z_isArc, .ref z_reaches, .ref z_knotOf, .int 0, .ref z_aheadOf, .ref z_rows, .ref z_deep, .ref z_left, .ref z_partOf, .ref z_sideOf, .ref z_isOdd, .int 0, .ref z_row]))] s.heap := hP
  have hl := lv_entry ([.ref qm]) (n := 6) (Nat.le_of_ble_eq_true rfl)
  rw [lg_entry_eq]
  generalize (lg_sl ([.ref qm]) ++ List.replicate (6 - (lg_sl ([.ref qm])).length) Slot.unset).toArray = ls at hl ⊢
  have hl : lv_has ls 6 [(0, .ref qm)] := hl
  refine lv_aload_n hx hb d_p7_36_0 rfl (lv_at hl 0 rfl) ?_
  have hPc := hP.sub (ws' := [(qm, .inr (5, [.int 0, .ref z_isArc, .ref z_reaches, .ref z_knotOf, .int 0, .ref z_aheadOf, .ref z_rows, .ref z_deep, .ref z_left, .ref z_partOf, .ref z_sideOf, .ref z_isOdd, .int 0, .ref z_row]))]) [0] rfl
  have hDc := hD.sub (ws' := [(qm, .inr (5, [.int 0, .ref z_isArc, .ref z_reaches, .ref z_knotOf, .int 0, .ref z_aheadOf, .ref z_rows, .ref z_deep, .ref z_left, .ref z_partOf, .ref z_sideOf, .ref z_isOdd, .int 0, .ref z_row]))]) [0] (by decide) rfl
  have hKc := hK.sub (tys' := []) [] rfl
  have hFc := va_free (wc := [(qm, .inr (5, [.int 0, .ref z_isArc, .ref z_reaches, .ref z_knotOf, .int 0, .ref z_aheadOf, .ref z_rows, .ref z_deep, .ref z_left, .ref z_partOf, .ref z_sideOf, .ref z_isOdd, .int 0, .ref z_row]))]) hD hS hA [0] rfl
  refine va_callv (va_runV (As := []) (rest := []) ⟨hx, hb, hml, hown, hts⟩ (c_M_line l dC dI qm z_isArc z_reaches z_knotOf z_aheadOf z_rows z_deep z_left z_partOf z_sideOf z_isOdd z_row s.heap.size) (cwV 0 hts (gV gd_593 tw_590 tw_592 tw_42 tw_60) rfl rfl rfl (by decide +kernel) ⟨Nat.le_of_ble_eq_true rfl, Nat.le_of_ble_eq_true rfl⟩) ⟨cPre_blind, va_recv hKc hPc (ci := 5) (q0 := 0) rfl rfl, cPre_pre hPc hKc hDc hN⟩ rfl rfl hl.1 rfl (lv_room (Nat.le_of_ble_eq_true rfl)) d_p7_36_1 ⟨Nat.le_of_ble_eq_true rfl, Nat.le_of_ble_eq_true rfl⟩) hS (fun q _ h => hFc q h) hFc (fun u t H1 locs ht hvm hw hB hz1 hk1 hS => ?_)
  obtain ⟨hP1, hK1, hD1⟩ := hB
  rw [ht] at hP1
  obtain ⟨hP, hD⟩ := va_join (wr := []) (w1 := [(qm, .inr (5, [.int 0, .ref z_isArc, .ref z_reaches, .ref z_knotOf, .int 0, .ref z_aheadOf, .ref z_rows, .ref z_deep, .ref z_left, .ref z_partOf, .ref z_sideOf, .ref z_isOdd, .int 0, .ref z_row]))]) hP hD [0] [] rfl rfl (by decide) (by decide) hk1 hFc hP1 hD1
  generalize H1 = H at hP hS ⊢
  have hP : va_P (dC, dI) classes [(qm, .inr (5, [.int 0, .ref z_isArc, .ref z_reaches, .ref z_knotOf, .int 0, .ref z_aheadOf, .ref z_rows, .ref z_deep, .ref z_left, .ref z_partOf, .ref z_sideOf, .ref z_isOdd, .int 0, .ref z_row]))] H := hP
  have hD : va_D A [(qm, .inr (5, [.int 0, .ref z_isArc, .ref z_reaches, .ref z_knotOf, .int 0, .ref z_aheadOf, .ref z_rows, .ref z_deep, .ref z_left, .ref z_partOf, .ref z_sideOf, .ref z_isOdd, .int 0, .ref z_row]))] := hD
  refine lv_aload_n hx hb d_p7_36_4 rfl (lv_at hl 0 rfl) ?_
  refine va_get (D := (dC, dI)) (ci := 5) (v := .int 0) (C := "StrongPartsModel") (T := T_5) (N := 14) hx hb hts in_5 hown hK hP 0 rfl rfl 4 (by decide) (hts _ tw_491) (fun _ h9 => h9) rfl d_p7_36_5 ?_
  refine lv_iconst (v := 2) hx hb d_p7_36_8 (by decide) ?_
  refine lv_icmp_ge (tgt := 14) hx hb d_p7_36_9 (by decide) (fun c => absurd c (by decide)) (fun _ => ?_)
  refine lv_iconst (v := 0) hx hb d_p7_36_12 (by decide) ?_
  have hP9 := hP.sub (ws' := []) [] rfl
  have hD9 := hD.sub (ws' := []) [] (by decide) rfl
  have hK9 := hK.sub (tys' := []) [] rfl
  exact W.iret (v := 0) hx hb hr (fun t ht hW => ⟨⟨0, (), rfl, rfl, cEnd_mk hP9 hK9 hD9 ht hW⟩, hS.F ht⟩) hS.2.2 d_p7_36_13

set_option maxHeartbeats 4000000 in
set_option maxRecDepth 100000 in
theorem c_M_roots (l : Launch) (dC : Nat → ClassId) (dI : Nat → Nat → Nat) (qm : Nat) (z_isArc : Nat) (z_reaches : Nat) (z_knotOf : Nat) (z_aheadOf : Nat) (z_rows : Nat) (z_deep : Nat) (z_left : Nat) (z_partOf : Nat) (z_sideOf : Nat) (z_isOdd : Nat) (z_row : Nat) (sz : Nat) : Met l ({ cls := "StrongPartsModel", name := "roots", desc := "()I" } : Jvm.MethodName) (ww ({ cls := "StrongPartsModel", name := "roots", desc := "()I" } : Jvm.MethodName) prog_7_method_37_code 5 (some .int)) ({ frames := 1, cells := 0, slots := 0, locals := 24 }) (va_Pc [.ref qm] (cPre (dC, dI) [(qm, .inr (5, [.int 0, .ref z_isArc, .ref z_reaches, .ref z_knotOf, .int 0, .ref z_aheadOf, .ref z_rows, .ref z_deep, .ref z_left, .ref z_partOf, .ref z_sideOf, .ref z_isOdd, .int 0, .ref z_row]))] [] sz)) (va_Qi (fun (r : Int32) (_ : Unit) => r = 0) (cEnd (dC, dI) [] [] (va_A [(qm, .inr (5, [.int 0, .ref z_isArc, .ref z_reaches, .ref z_knotOf, .int 0, .ref z_aheadOf, .ref z_rows, .ref z_deep, .ref z_left, .ref z_partOf, .ref z_sideOf, .ref z_isOdd, .int 0, .ref z_row]))] sz)) (va_A [(qm, .inr (5, [.int 0, .ref z_isArc, .ref z_reaches, .ref z_knotOf, .int 0, .ref z_aheadOf, .ref z_rows, .ref z_deep, .ref z_left, .ref z_partOf, .ref z_sideOf, .ref z_isOdd, .int 0, .ref z_row]))] sz)) 0 0 (va_A [(qm, .inr (5, [.int 0, .ref z_isArc, .ref z_reaches, .ref z_knotOf, .int 0, .ref z_aheadOf, .ref z_rows, .ref z_deep, .ref z_left, .ref z_partOf, .ref z_sideOf, .ref z_isOdd, .int 0, .ref z_row]))] sz) := by
  refine Met.ofW (cc := prog_7_method_37_code) (maxL := 5) (ret := (some .int)) (by decide) rfl ?_
  intro p e s m args below meth c s₁ B hml hv
  obtain ⟨rfl, hsz, hP, hK, hD0, hN⟩ := hv
  have hx := B.exec
  have hb := B.bytes
  have hr := B.returns
  have hts := ww_hts (atoms_spec (ws := ww ({ cls := "StrongPartsModel", name := "roots", desc := "()I" } : Jvm.MethodName) prog_7_method_37_code 5 (some .int)) B.pre)
  have hown : s.vm.findClass "StrongPartsModel" = some m.cls := findClass_of_methodNamed B.named
  have hlocks := B.notSynchronized
  subst hsz
  have hD := hD0.self (sz := s.heap.size)
  generalize hAe : va_A [(qm, .inr (5, [.int 0, .ref z_isArc, .ref z_reaches, .ref z_knotOf, .int 0, .ref z_aheadOf, .ref z_rows, .ref z_deep, .ref z_left, .ref z_partOf, .ref z_sideOf, .ref z_isOdd, .int 0, .ref z_row]))] s.heap.size = A at hD ⊢
  have hA : ∀ q : Nat, s.heap.size ≤ q → A q := fun q h => by rw [← hAe]; exact Or.inr h
  have hS : va_S A s.heap s.heap [] := va_S.rf
  have hP : va_P (dC, dI) classes [(qm, .inr (5, [.int 0, .ref z_isArc, .ref z_reaches, .ref z_knotOf, .int 0, .ref z_aheadOf, .ref z_rows, .ref z_deep, .ref z_left, .ref z_partOf, .ref z_sideOf, .ref z_isOdd, .int 0, .ref z_row]))] s.heap := hP
  have hl := lv_entry ([.ref qm]) (n := 5) (Nat.le_of_ble_eq_true rfl)
  rw [lg_entry_eq]
  generalize (lg_sl ([.ref qm]) ++ List.replicate (5 - (lg_sl ([.ref qm])).length) Slot.unset).toArray = ls at hl ⊢
  have hl : lv_has ls 5 [(0, .ref qm)] := hl
  refine lv_aload_n hx hb d_p7_37_0 rfl (lv_at hl 0 rfl) ?_
  refine lv_iconst (v := 0) hx hb d_p7_37_1 (by decide) ?_
  have hPc := hP.sub (ws' := [(qm, .inr (5, [.int 0, .ref z_isArc, .ref z_reaches, .ref z_knotOf, .int 0, .ref z_aheadOf, .ref z_rows, .ref z_deep, .ref z_left, .ref z_partOf, .ref z_sideOf, .ref z_isOdd, .int 0, .ref z_row]))]) [0] rfl
  have hDc := hD.sub (ws' := [(qm, .inr (5, [.int 0, .ref z_isArc, .ref z_reaches, .ref z_knotOf, .int 0, .ref z_aheadOf, .ref z_rows, .ref z_deep, .ref z_left, .ref z_partOf, .ref z_sideOf, .ref z_isOdd, .int 0, .ref z_row]))]) [0] (by decide) rfl
  have hKc := hK.sub (tys' := []) [] rfl
  have hFc := va_free (wc := [(qm, .inr (5, [.int 0, .ref z_isArc, .ref z_reaches, .ref z_knotOf, .int 0, .ref z_aheadOf, .ref z_rows, .ref z_deep, .ref z_left, .ref z_partOf, .ref z_sideOf, .ref z_isOdd, .int 0, .ref z_row]))]) hD hS hA [0] rfl
  refine va_callv (va_runV (As := [.int 0]) (rest := []) ⟨hx, hb, hml, hown, hts⟩ (c_M_learn l dC dI qm z_isArc z_reaches z_knotOf z_aheadOf z_rows z_deep z_left z_partOf z_sideOf z_isOdd z_row s.heap.size) (cwV 1 hts (gV gd_573 tw_570 tw_572 tw_40 tw_60) rfl rfl rfl (by decide +kernel) ⟨Nat.le_of_ble_eq_true rfl, Nat.le_of_ble_eq_true rfl⟩) ⟨cPre_blind, va_recv hKc hPc (ci := 5) (q0 := 0) rfl rfl, cPre_pre hPc hKc hDc hN⟩ rfl rfl hl.1 rfl (lv_room (Nat.le_of_ble_eq_true rfl)) d_p7_37_2 ⟨Nat.le_of_ble_eq_true rfl, Nat.le_of_ble_eq_true rfl⟩) hS (fun q _ h => hFc q h) hFc (fun u t H1 locs ht hvm hw hB hz1 hk1 hS => ?_)
  obtain ⟨hP1, hK1, hD1⟩ := hB
  rw [ht] at hP1
  obtain ⟨hP, hD⟩ := va_join (wr := []) (w1 := [(qm, .inr (5, [.int 0, .ref z_isArc, .ref z_reaches, .ref z_knotOf, .int 0, .ref z_aheadOf, .ref z_rows, .ref z_deep, .ref z_left, .ref z_partOf, .ref z_sideOf, .ref z_isOdd, .int 0, .ref z_row]))]) hP hD [0] [] rfl rfl (by decide) (by decide) hk1 hFc hP1 hD1
  generalize H1 = H at hP hS ⊢
  have hP : va_P (dC, dI) classes [(qm, .inr (5, [.int 0, .ref z_isArc, .ref z_reaches, .ref z_knotOf, .int 0, .ref z_aheadOf, .ref z_rows, .ref z_deep, .ref z_left, .ref z_partOf, .ref z_sideOf, .ref z_isOdd, .int 0, .ref z_row]))] H := hP
  have hD : va_D A [(qm, .inr (5, [.int 0, .ref z_isArc, .ref z_reaches, .ref z_knotOf, .int 0, .ref z_aheadOf, .ref z_rows, .ref z_deep, .ref z_left, .ref z_partOf, .ref z_sideOf, .ref z_isOdd, .int 0, .ref z_row]))] := hD
  refine lv_iconst (v := 0) hx hb d_p7_37_5 (by decide) ?_
  refine lv_istore_n (lv' := [(1, .int 0), (0, .ref qm)]) hx hb d_p7_37_6 rfl hl (by decide) rfl (fun ls hl => ?_)
  refine lv_iconst (v := 0) hx hb d_p7_37_7 (by decide) ?_
  refine lv_istore_n (lv' := [(2, .int 0), (1, .int 0), (0, .ref qm)]) hx hb d_p7_37_8 rfl hl (by decide) rfl (fun ls hl => ?_)
  refine lv_iload_n hx hb d_p7_37_9 rfl (lv_at hl 0 rfl) ?_
  refine lv_aload_n hx hb d_p7_37_10 rfl (lv_at hl 2 rfl) ?_
  refine va_get (D := (dC, dI)) (ci := 5) (v := .int 0) (C := "StrongPartsModel") (T := T_5) (N := 14) hx hb hts in_5 hown hK hP 0 rfl rfl 0 (by decide) (hts _ tw_487) (fun _ h9 => h9) rfl d_p7_37_11 ?_
  refine lv_icmp_ge (tgt := 77) hx hb d_p7_37_14 (by decide) (fun _ => ?_) (fun c => absurd (by decide) c)
  refine lv_iload_n hx hb d_p7_37_77 rfl (lv_at hl 1 rfl) ?_
  have hP9 := hP.sub (ws' := []) [] rfl
  have hD9 := hD.sub (ws' := []) [] (by decide) rfl
  have hK9 := hK.sub (tys' := []) [] rfl
  exact W.iret (v := 0) hx hb hr (fun t ht hW => ⟨⟨0, (), rfl, rfl, cEnd_mk hP9 hK9 hD9 ht hW⟩, hS.F ht⟩) hS.2.2 d_p7_37_78

set_option maxHeartbeats 4000000 in
set_option maxRecDepth 100000 in
theorem c_M_half (l : Launch) (dC : Nat → ClassId) (dI : Nat → Nat → Nat) (qm : Nat) (z_isArc : Nat) (z_reaches : Nat) (z_knotOf : Nat) (z_aheadOf : Nat) (z_rows : Nat) (z_deep : Nat) (z_left : Nat) (z_partOf : Nat) (z_sideOf : Nat) (z_isOdd : Nat) (z_row : Nat) (sz : Nat) : Met l ({ cls := "StrongPartsModel", name := "half", desc := "()I" } : Jvm.MethodName) (ww ({ cls := "StrongPartsModel", name := "half", desc := "()I" } : Jvm.MethodName) prog_7_method_38_code 4 (some .int)) ({ frames := 1, cells := 0, slots := 0, locals := 24 }) (va_Pc [.ref qm] (cPre (dC, dI) [(qm, .inr (5, [.int 0, .ref z_isArc, .ref z_reaches, .ref z_knotOf, .int 0, .ref z_aheadOf, .ref z_rows, .ref z_deep, .ref z_left, .ref z_partOf, .ref z_sideOf, .ref z_isOdd, .int 0, .ref z_row]))] [] sz)) (va_Qi (fun (r : Int32) (_ : Unit) => r = 1) (cEnd (dC, dI) [] [] (va_A [(qm, .inr (5, [.int 0, .ref z_isArc, .ref z_reaches, .ref z_knotOf, .int 0, .ref z_aheadOf, .ref z_rows, .ref z_deep, .ref z_left, .ref z_partOf, .ref z_sideOf, .ref z_isOdd, .int 0, .ref z_row]))] sz)) (va_A [(qm, .inr (5, [.int 0, .ref z_isArc, .ref z_reaches, .ref z_knotOf, .int 0, .ref z_aheadOf, .ref z_rows, .ref z_deep, .ref z_left, .ref z_partOf, .ref z_sideOf, .ref z_isOdd, .int 0, .ref z_row]))] sz)) 0 0 (va_A [(qm, .inr (5, [.int 0, .ref z_isArc, .ref z_reaches, .ref z_knotOf, .int 0, .ref z_aheadOf, .ref z_rows, .ref z_deep, .ref z_left, .ref z_partOf, .ref z_sideOf, .ref z_isOdd, .int 0, .ref z_row]))] sz) := by
  refine Met.ofW (cc := prog_7_method_38_code) (maxL := 4) (ret := (some .int)) (by decide) rfl ?_
  intro p e s m args below meth c s₁ B hml hv
  obtain ⟨rfl, hsz, hP, hK, hD0, hN⟩ := hv
  have hx := B.exec
  have hb := B.bytes
  have hr := B.returns
  have hts := ww_hts (atoms_spec (ws := ww ({ cls := "StrongPartsModel", name := "half", desc := "()I" } : Jvm.MethodName) prog_7_method_38_code 4 (some .int)) B.pre)
  have hown : s.vm.findClass "StrongPartsModel" = some m.cls := findClass_of_methodNamed B.named
  have hlocks := B.notSynchronized
  subst hsz
  have hD := hD0.self (sz := s.heap.size)
  generalize hAe : va_A [(qm, .inr (5, [.int 0, .ref z_isArc, .ref z_reaches, .ref z_knotOf, .int 0, .ref z_aheadOf, .ref z_rows, .ref z_deep, .ref z_left, .ref z_partOf, .ref z_sideOf, .ref z_isOdd, .int 0, .ref z_row]))] s.heap.size = A at hD ⊢
  have hA : ∀ q : Nat, s.heap.size ≤ q → A q := fun q h => by rw [← hAe]; exact Or.inr h
  have hS : va_S A s.heap s.heap [] := va_S.rf
  have hP : va_P (dC, dI) classes [(qm, .inr (5, [.int 0, .ref z_isArc, .ref z_reaches, .ref z_knotOf, .int 0, .ref z_aheadOf, .ref z_rows, .ref z_deep, .ref z_left, .ref z_partOf, .ref z_sideOf, .ref z_isOdd, .int 0, .ref z_row]))] s.heap := hP
  have hl := lv_entry ([.ref qm]) (n := 4) (Nat.le_of_ble_eq_true rfl)
  rw [lg_entry_eq]
  generalize (lg_sl ([.ref qm]) ++ List.replicate (4 - (lg_sl ([.ref qm])).length) Slot.unset).toArray = ls at hl ⊢
  have hl : lv_has ls 4 [(0, .ref qm)] := hl
  refine lv_aload_n hx hb d_p7_38_0 rfl (lv_at hl 0 rfl) ?_
  refine lv_iconst (v := 0) hx hb d_p7_38_1 (by decide) ?_
  have hPc := hP.sub (ws' := [(qm, .inr (5, [.int 0, .ref z_isArc, .ref z_reaches, .ref z_knotOf, .int 0, .ref z_aheadOf, .ref z_rows, .ref z_deep, .ref z_left, .ref z_partOf, .ref z_sideOf, .ref z_isOdd, .int 0, .ref z_row]))]) [0] rfl
  have hDc := hD.sub (ws' := [(qm, .inr (5, [.int 0, .ref z_isArc, .ref z_reaches, .ref z_knotOf, .int 0, .ref z_aheadOf, .ref z_rows, .ref z_deep, .ref z_left, .ref z_partOf, .ref z_sideOf, .ref z_isOdd, .int 0, .ref z_row]))]) [0] (by decide) rfl
  have hKc := hK.sub (tys' := []) [] rfl
  have hFc := va_free (wc := [(qm, .inr (5, [.int 0, .ref z_isArc, .ref z_reaches, .ref z_knotOf, .int 0, .ref z_aheadOf, .ref z_rows, .ref z_deep, .ref z_left, .ref z_partOf, .ref z_sideOf, .ref z_isOdd, .int 0, .ref z_row]))]) hD hS hA [0] rfl
  refine va_callv (va_runV (As := [.int 0]) (rest := []) ⟨hx, hb, hml, hown, hts⟩ (c_M_learn l dC dI qm z_isArc z_reaches z_knotOf z_aheadOf z_rows z_deep z_left z_partOf z_sideOf z_isOdd z_row s.heap.size) (cwV 1 hts (gV gd_573 tw_570 tw_572 tw_40 tw_60) rfl rfl rfl (by decide +kernel) ⟨Nat.le_of_ble_eq_true rfl, Nat.le_of_ble_eq_true rfl⟩) ⟨cPre_blind, va_recv hKc hPc (ci := 5) (q0 := 0) rfl rfl, cPre_pre hPc hKc hDc hN⟩ rfl rfl hl.1 rfl (lv_room (Nat.le_of_ble_eq_true rfl)) d_p7_38_2 ⟨Nat.le_of_ble_eq_true rfl, Nat.le_of_ble_eq_true rfl⟩) hS (fun q _ h => hFc q h) hFc (fun u t H1 locs ht hvm hw hB hz1 hk1 hS => ?_)
  obtain ⟨hP1, hK1, hD1⟩ := hB
  rw [ht] at hP1
  obtain ⟨hP, hD⟩ := va_join (wr := []) (w1 := [(qm, .inr (5, [.int 0, .ref z_isArc, .ref z_reaches, .ref z_knotOf, .int 0, .ref z_aheadOf, .ref z_rows, .ref z_deep, .ref z_left, .ref z_partOf, .ref z_sideOf, .ref z_isOdd, .int 0, .ref z_row]))]) hP hD [0] [] rfl rfl (by decide) (by decide) hk1 hFc hP1 hD1
  generalize H1 = H at hP hS ⊢
  have hP : va_P (dC, dI) classes [(qm, .inr (5, [.int 0, .ref z_isArc, .ref z_reaches, .ref z_knotOf, .int 0, .ref z_aheadOf, .ref z_rows, .ref z_deep, .ref z_left, .ref z_partOf, .ref z_sideOf, .ref z_isOdd, .int 0, .ref z_row]))] H := hP
  have hD : va_D A [(qm, .inr (5, [.int 0, .ref z_isArc, .ref z_reaches, .ref z_knotOf, .int 0, .ref z_aheadOf, .ref z_rows, .ref z_deep, .ref z_left, .ref z_partOf, .ref z_sideOf, .ref z_isOdd, .int 0, .ref z_row]))] := hD
  refine lv_iconst (v := 1) hx hb d_p7_38_5 (by decide) ?_
  refine lv_istore_n (lv' := [(1, .int 1), (0, .ref qm)]) hx hb d_p7_38_6 rfl hl (by decide) rfl (fun ls hl => ?_)
  refine lv_iconst (v := 0) hx hb d_p7_38_7 (by decide) ?_
  refine lv_istore_n (lv' := [(2, .int 0), (1, .int 1), (0, .ref qm)]) hx hb d_p7_38_8 rfl hl (by decide) rfl (fun ls hl => ?_)
  refine lv_iload_n hx hb d_p7_38_9 rfl (lv_at hl 0 rfl) ?_
  refine lv_aload_n hx hb d_p7_38_10 rfl (lv_at hl 2 rfl) ?_
  refine va_get (D := (dC, dI)) (ci := 5) (v := .int 0) (C := "StrongPartsModel") (T := T_5) (N := 14) hx hb hts in_5 hown hK hP 0 rfl rfl 0 (by decide) (hts _ tw_487) (fun _ h9 => h9) rfl d_p7_38_11 ?_
  refine lv_icmp_ge (tgt := 63) hx hb d_p7_38_14 (by decide) (fun _ => ?_) (fun c => absurd (by decide) c)
  refine lv_iload_n hx hb d_p7_38_63 rfl (lv_at hl 1 rfl) ?_
  have hP9 := hP.sub (ws' := []) [] rfl
  have hD9 := hD.sub (ws' := []) [] (by decide) rfl
  have hK9 := hK.sub (tys' := []) [] rfl
  exact W.iret (v := 1) hx hb hr (fun t ht hW => ⟨⟨1, (), rfl, rfl, cEnd_mk hP9 hK9 hD9 ht hW⟩, hS.F ht⟩) hS.2.2 d_p7_38_64

set_option maxHeartbeats 4000000 in
set_option maxRecDepth 100000 in
theorem c_M_loosen (l : Launch) (dC : Nat → ClassId) (dI : Nat → Nat → Nat) (qm : Nat) (z_isArc : Nat) (z_reaches : Nat) (z_knotOf : Nat) (z_aheadOf : Nat) (z_rows : Nat) (z_deep : Nat) (z_left : Nat) (z_partOf : Nat) (z_sideOf : Nat) (z_isOdd : Nat) (z_row : Nat) (sz : Nat) : Met l ({ cls := "StrongPartsModel", name := "loosen", desc := "()I" } : Jvm.MethodName) (ww ({ cls := "StrongPartsModel", name := "loosen", desc := "()I" } : Jvm.MethodName) prog_7_method_47_code 3 (some .int)) ({ frames := 0, cells := 0, slots := 0, locals := 0 }) (va_Pc [.ref qm] (cPre (dC, dI) [(qm, .inr (5, [.int 0, .ref z_isArc, .ref z_reaches, .ref z_knotOf, .int 0, .ref z_aheadOf, .ref z_rows, .ref z_deep, .ref z_left, .ref z_partOf, .ref z_sideOf, .ref z_isOdd, .int 0, .ref z_row]))] [] sz)) (va_Qi (fun (r : Int32) (_ : Unit) => r = 0) (cEnd (dC, dI) [] [] (va_A [(qm, .inr (5, [.int 0, .ref z_isArc, .ref z_reaches, .ref z_knotOf, .int 0, .ref z_aheadOf, .ref z_rows, .ref z_deep, .ref z_left, .ref z_partOf, .ref z_sideOf, .ref z_isOdd, .int 0, .ref z_row]))] sz)) (va_A [(qm, .inr (5, [.int 0, .ref z_isArc, .ref z_reaches, .ref z_knotOf, .int 0, .ref z_aheadOf, .ref z_rows, .ref z_deep, .ref z_left, .ref z_partOf, .ref z_sideOf, .ref z_isOdd, .int 0, .ref z_row]))] sz)) 0 0 (va_A [(qm, .inr (5, [.int 0, .ref z_isArc, .ref z_reaches, .ref z_knotOf, .int 0, .ref z_aheadOf, .ref z_rows, .ref z_deep, .ref z_left, .ref z_partOf, .ref z_sideOf, .ref z_isOdd, .int 0, .ref z_row]))] sz) := by
  refine Met.ofW (cc := prog_7_method_47_code) (maxL := 3) (ret := (some .int)) (by decide) rfl ?_
  intro p e s m args below meth c s₁ B hml hv
  obtain ⟨rfl, hsz, hP, hK, hD0, hN⟩ := hv
  have hx := B.exec
  have hb := B.bytes
  have hr := B.returns
  have hts := ww_hts (atoms_spec (ws := ww ({ cls := "StrongPartsModel", name := "loosen", desc := "()I" } : Jvm.MethodName) prog_7_method_47_code 3 (some .int)) B.pre)
  have hown : s.vm.findClass "StrongPartsModel" = some m.cls := findClass_of_methodNamed B.named
  have hlocks := B.notSynchronized
  subst hsz
  have hD := hD0.self (sz := s.heap.size)
  generalize hAe : va_A [(qm, .inr (5, [.int 0, .ref z_isArc, .ref z_reaches, .ref z_knotOf, .int 0, .ref z_aheadOf, .ref z_rows, .ref z_deep, .ref z_left, .ref z_partOf, .ref z_sideOf, .ref z_isOdd, .int 0, .ref z_row]))] s.heap.size = A at hD ⊢
  have hA : ∀ q : Nat, s.heap.size ≤ q → A q := fun q h => by rw [← hAe]; exact Or.inr h
  have hS : va_S A s.heap s.heap [] := va_S.rf
  have hP : va_P (dC, dI) classes [(qm, .inr (5, [.int 0, .ref z_isArc, .ref z_reaches, .ref z_knotOf, .int 0, .ref z_aheadOf, .ref z_rows, .ref z_deep, .ref z_left, .ref z_partOf, .ref z_sideOf, .ref z_isOdd, .int 0, .ref z_row]))] s.heap := hP
  have hl := lv_entry ([.ref qm]) (n := 3) (Nat.le_of_ble_eq_true rfl)
  rw [lg_entry_eq]
  generalize (lg_sl ([.ref qm]) ++ List.replicate (3 - (lg_sl ([.ref qm])).length) Slot.unset).toArray = ls at hl ⊢
  have hl : lv_has ls 3 [(0, .ref qm)] := hl
  refine lv_iconst (v := 0) hx hb d_p7_47_0 (by decide) ?_
  refine lv_istore_n (lv' := [(1, .int 0), (0, .ref qm)]) hx hb d_p7_47_1 rfl hl (by decide) rfl (fun ls hl => ?_)
  refine lv_iload_n hx hb d_p7_47_2 rfl (lv_at hl 0 rfl) ?_
  refine lv_aload_n hx hb d_p7_47_3 rfl (lv_at hl 1 rfl) ?_
  refine va_get (D := (dC, dI)) (ci := 5) (v := .int 0) (C := "StrongPartsModel") (T := T_5) (N := 14) hx hb hts in_5 hown hK hP 0 rfl rfl 0 (by decide) (hts _ tw_487) (fun _ h9 => h9) rfl d_p7_47_4 ?_
  refine lv_icmp_ge (tgt := 52) hx hb d_p7_47_7 (by decide) (fun _ => ?_) (fun c => absurd (by decide) c)
  refine lv_iconst (v := 0) hx hb d_p7_47_52 (by decide) ?_
  have hP9 := hP.sub (ws' := []) [] rfl
  have hD9 := hD.sub (ws' := []) [] (by decide) rfl
  have hK9 := hK.sub (tys' := []) [] rfl
  exact W.iret (v := 0) hx hb hr (fun t ht hW => ⟨⟨0, (), rfl, rfl, cEnd_mk hP9 hK9 hD9 ht hW⟩, hS.F ht⟩) hS.2.2 d_p7_47_53

set_option maxHeartbeats 4000000 in
set_option maxRecDepth 100000 in
theorem c_M_of_0 (l : Launch) (dC : Nat → ClassId) (dI : Nat → Nat → Nat) (qm : Nat) (z_isArc : Nat) (z_reaches : Nat) (z_knotOf : Nat) (z_aheadOf : Nat) (z_rows : Nat) (z_deep : Nat) (z_left : Nat) (z_partOf : Nat) (z_sideOf : Nat) (z_isOdd : Nat) (z_row : Nat) (sz : Nat) : Met l ({ cls := "StrongPartsModel", name := "of", desc := "(I)I" } : Jvm.MethodName) (ww ({ cls := "StrongPartsModel", name := "of", desc := "(I)I" } : Jvm.MethodName) prog_7_method_48_code 5 (some .int)) ({ frames := 1, cells := 0, slots := 0, locals := 22 }) (va_Pc [.ref qm, .int 0] (cPre (dC, dI) [(qm, .inr (5, [.int 0, .ref z_isArc, .ref z_reaches, .ref z_knotOf, .int 0, .ref z_aheadOf, .ref z_rows, .ref z_deep, .ref z_left, .ref z_partOf, .ref z_sideOf, .ref z_isOdd, .int 0, .ref z_row]))] [] sz)) (va_Qi (fun (r : Int32) (_ : Unit) => r = 0) (cEnd (dC, dI) [] [] (va_A [(qm, .inr (5, [.int 0, .ref z_isArc, .ref z_reaches, .ref z_knotOf, .int 0, .ref z_aheadOf, .ref z_rows, .ref z_deep, .ref z_left, .ref z_partOf, .ref z_sideOf, .ref z_isOdd, .int 0, .ref z_row]))] sz)) (va_A [(qm, .inr (5, [.int 0, .ref z_isArc, .ref z_reaches, .ref z_knotOf, .int 0, .ref z_aheadOf, .ref z_rows, .ref z_deep, .ref z_left, .ref z_partOf, .ref z_sideOf, .ref z_isOdd, .int 0, .ref z_row]))] sz)) 0 0 (va_A [(qm, .inr (5, [.int 0, .ref z_isArc, .ref z_reaches, .ref z_knotOf, .int 0, .ref z_aheadOf, .ref z_rows, .ref z_deep, .ref z_left, .ref z_partOf, .ref z_sideOf, .ref z_isOdd, .int 0, .ref z_row]))] sz) := by
  refine Met.ofW (cc := prog_7_method_48_code) (maxL := 5) (ret := (some .int)) (by decide) rfl ?_
  intro p e s m args below meth c s₁ B hml hv
  obtain ⟨rfl, hsz, hP, hK, hD0, hN⟩ := hv
  have hx := B.exec
  have hb := B.bytes
  have hr := B.returns
  have hts := ww_hts (atoms_spec (ws := ww ({ cls := "StrongPartsModel", name := "of", desc := "(I)I" } : Jvm.MethodName) prog_7_method_48_code 5 (some .int)) B.pre)
  have hown : s.vm.findClass "StrongPartsModel" = some m.cls := findClass_of_methodNamed B.named
  have hlocks := B.notSynchronized
  subst hsz
  have hD := hD0.self (sz := s.heap.size)
  generalize hAe : va_A [(qm, .inr (5, [.int 0, .ref z_isArc, .ref z_reaches, .ref z_knotOf, .int 0, .ref z_aheadOf, .ref z_rows, .ref z_deep, .ref z_left, .ref z_partOf, .ref z_sideOf, .ref z_isOdd, .int 0, .ref z_row]))] s.heap.size = A at hD ⊢
  have hA : ∀ q : Nat, s.heap.size ≤ q → A q := fun q h => by rw [← hAe]; exact Or.inr h
  have hS : va_S A s.heap s.heap [] := va_S.rf
  have hP : va_P (dC, dI) classes [(qm, .inr (5, [.int 0, .ref z_isArc, .ref z_reaches, .ref z_knotOf, .int 0, .ref z_aheadOf, .ref z_rows, .ref z_deep, .ref z_left, .ref z_partOf, .ref z_sideOf, .ref z_isOdd, .int 0, .ref z_row]))] s.heap := hP
  have hl := lv_entry ([.ref qm, .int 0]) (n := 5) (Nat.le_of_ble_eq_true rfl)
  rw [lg_entry_eq]
  generalize (lg_sl ([.ref qm, .int 0]) ++ List.replicate (5 - (lg_sl ([.ref qm, .int 0])).length) Slot.unset).toArray = ls at hl ⊢
  have hl : lv_has ls 5 [(0, .ref qm), (1, .int 0)] := hl
  refine lv_iload_n hx hb d_p7_48_0 rfl (lv_at hl 1 rfl) ?_
  refine lv_iconst (v := 0) hx hb d_p7_48_1 (by decide) ?_
  refine lv_iconst (v := 2) hx hb d_p7_48_2 (by decide) ?_
  have hPc := hP.sub (ws' := []) [] rfl
  have hDc := hD.sub (ws' := []) [] (by decide) rfl
  have hKc := hK.sub (tys' := []) [] rfl
  have hFc := va_free (wc := []) hD hS hA [] rfl
  refine va_calli (va_runS (As := [.int 0, .int 0, .int 2]) (rest := []) ⟨hx, hb, hml, hown, hts⟩ (c_M_isIn_in l dC dI 0 0 2 s.heap.size (by decide) (by decide)) (va_cwS 3 hts (gS gd_549 tw_547 tw_548 tw_60) rfl rfl rfl (by decide +kernel) ⟨Nat.le_of_ble_eq_true rfl, Nat.le_of_ble_eq_true rfl⟩) ⟨cPre_blind, cPre_pre hPc hKc hDc hN⟩ rfl rfl hl.1 rfl (lv_room (Nat.le_of_ble_eq_true rfl)) d_p7_48_3 ⟨Nat.le_of_ble_eq_true rfl, Nat.le_of_ble_eq_true rfl⟩) hS (fun q _ h => hFc q h) hFc (fun r_1 u t H1 locs ht hvm hw hB hz1 hk1 hS => ?_)
  obtain ⟨hP1, hK1, hD1⟩ := hB
  rw [ht] at hP1
  obtain ⟨hP, hD⟩ := va_join (wr := [(qm, .inr (5, [.int 0, .ref z_isArc, .ref z_reaches, .ref z_knotOf, .int 0, .ref z_aheadOf, .ref z_rows, .ref z_deep, .ref z_left, .ref z_partOf, .ref z_sideOf, .ref z_isOdd, .int 0, .ref z_row]))]) (w1 := []) hP hD [] [0] rfl rfl (by decide) (by decide) hk1 hFc hP1 hD1
  generalize H1 = H at hP hS ⊢
  have hP : va_P (dC, dI) classes [(qm, .inr (5, [.int 0, .ref z_isArc, .ref z_reaches, .ref z_knotOf, .int 0, .ref z_aheadOf, .ref z_rows, .ref z_deep, .ref z_left, .ref z_partOf, .ref z_sideOf, .ref z_isOdd, .int 0, .ref z_row]))] H := hP
  have hD : va_D A [(qm, .inr (5, [.int 0, .ref z_isArc, .ref z_reaches, .ref z_knotOf, .int 0, .ref z_aheadOf, .ref z_rows, .ref z_deep, .ref z_left, .ref z_partOf, .ref z_sideOf, .ref z_isOdd, .int 0, .ref z_row]))] := hD
  obtain rfl : r_1 = (1 : Int32) := hw
  refine lv_if_ne (tgt := 12) hx hb d_p7_48_6 (by decide) (fun _ => ?_) (fun c => absurd c (by decide))
  refine lv_iload_n hx hb d_p7_48_12 rfl (lv_at hl 1 rfl) ?_
  refine lv_if_ne (tgt := 21) hx hb d_p7_48_13 (by decide) (fun c => absurd c (by decide)) (fun _ => ?_)
  refine lv_aload_n hx hb d_p7_48_16 rfl (lv_at hl 0 rfl) ?_
  refine va_get (D := (dC, dI)) (ci := 5) (v := .int 0) (C := "StrongPartsModel") (T := T_5) (N := 14) hx hb hts in_5 hown hK hP 0 rfl rfl 0 (by decide) (hts _ tw_487) (fun _ h9 => h9) rfl d_p7_48_17 ?_
  have hP9 := hP.sub (ws' := []) [] rfl
  have hD9 := hD.sub (ws' := []) [] (by decide) rfl
  have hK9 := hK.sub (tys' := []) [] rfl
  exact W.iret (v := 0) hx hb hr (fun t ht hW => ⟨⟨0, (), rfl, rfl, cEnd_mk hP9 hK9 hD9 ht hW⟩, hS.F ht⟩) hS.2.2 d_p7_48_20

set_option maxHeartbeats 4000000 in
set_option maxRecDepth 100000 in
theorem c_M_of_1 (l : Launch) (dC : Nat → ClassId) (dI : Nat → Nat → Nat) (qm : Nat) (z_isArc : Nat) (z_reaches : Nat) (z_knotOf : Nat) (z_aheadOf : Nat) (z_rows : Nat) (z_deep : Nat) (z_left : Nat) (z_partOf : Nat) (z_sideOf : Nat) (z_isOdd : Nat) (z_row : Nat) (sz : Nat) : Met l ({ cls := "StrongPartsModel", name := "of", desc := "(I)I" } : Jvm.MethodName) (ww ({ cls := "StrongPartsModel", name := "of", desc := "(I)I" } : Jvm.MethodName) prog_7_method_48_code 5 (some .int)) ({ frames := 1, cells := 0, slots := 0, locals := 23 }) (va_Pc [.ref qm, .int 1] (cPre (dC, dI) [(qm, .inr (5, [.int 0, .ref z_isArc, .ref z_reaches, .ref z_knotOf, .int 0, .ref z_aheadOf, .ref z_rows, .ref z_deep, .ref z_left, .ref z_partOf, .ref z_sideOf, .ref z_isOdd, .int 0, .ref z_row]))] [] sz)) (va_Qi (fun (r : Int32) (_ : Unit) => r = 0) (cEnd (dC, dI) [] [] (va_A [(qm, .inr (5, [.int 0, .ref z_isArc, .ref z_reaches, .ref z_knotOf, .int 0, .ref z_aheadOf, .ref z_rows, .ref z_deep, .ref z_left, .ref z_partOf, .ref z_sideOf, .ref z_isOdd, .int 0, .ref z_row]))] sz)) (va_A [(qm, .inr (5, [.int 0, .ref z_isArc, .ref z_reaches, .ref z_knotOf, .int 0, .ref z_aheadOf, .ref z_rows, .ref z_deep, .ref z_left, .ref z_partOf, .ref z_sideOf, .ref z_isOdd, .int 0, .ref z_row]))] sz)) 0 0 (va_A [(qm, .inr (5, [.int 0, .ref z_isArc, .ref z_reaches, .ref z_knotOf, .int 0, .ref z_aheadOf, .ref z_rows, .ref z_deep, .ref z_left, .ref z_partOf, .ref z_sideOf, .ref z_isOdd, .int 0, .ref z_row]))] sz) := by
  refine Met.ofW (cc := prog_7_method_48_code) (maxL := 5) (ret := (some .int)) (by decide) rfl ?_
  intro p e s m args below meth c s₁ B hml hv
  obtain ⟨rfl, hsz, hP, hK, hD0, hN⟩ := hv
  have hx := B.exec
  have hb := B.bytes
  have hr := B.returns
  have hts := ww_hts (atoms_spec (ws := ww ({ cls := "StrongPartsModel", name := "of", desc := "(I)I" } : Jvm.MethodName) prog_7_method_48_code 5 (some .int)) B.pre)
  have hown : s.vm.findClass "StrongPartsModel" = some m.cls := findClass_of_methodNamed B.named
  have hlocks := B.notSynchronized
  subst hsz
  have hD := hD0.self (sz := s.heap.size)
  generalize hAe : va_A [(qm, .inr (5, [.int 0, .ref z_isArc, .ref z_reaches, .ref z_knotOf, .int 0, .ref z_aheadOf, .ref z_rows, .ref z_deep, .ref z_left, .ref z_partOf, .ref z_sideOf, .ref z_isOdd, .int 0, .ref z_row]))] s.heap.size = A at hD ⊢
  have hA : ∀ q : Nat, s.heap.size ≤ q → A q := fun q h => by rw [← hAe]; exact Or.inr h
  have hS : va_S A s.heap s.heap [] := va_S.rf
  have hP : va_P (dC, dI) classes [(qm, .inr (5, [.int 0, .ref z_isArc, .ref z_reaches, .ref z_knotOf, .int 0, .ref z_aheadOf, .ref z_rows, .ref z_deep, .ref z_left, .ref z_partOf, .ref z_sideOf, .ref z_isOdd, .int 0, .ref z_row]))] s.heap := hP
  have hl := lv_entry ([.ref qm, .int 1]) (n := 5) (Nat.le_of_ble_eq_true rfl)
  rw [lg_entry_eq]
  generalize (lg_sl ([.ref qm, .int 1]) ++ List.replicate (5 - (lg_sl ([.ref qm, .int 1])).length) Slot.unset).toArray = ls at hl ⊢
  have hl : lv_has ls 5 [(0, .ref qm), (1, .int 1)] := hl
  refine lv_iload_n hx hb d_p7_48_0 rfl (lv_at hl 1 rfl) ?_
  refine lv_iconst (v := 0) hx hb d_p7_48_1 (by decide) ?_
  refine lv_iconst (v := 2) hx hb d_p7_48_2 (by decide) ?_
  have hPc := hP.sub (ws' := []) [] rfl
  have hDc := hD.sub (ws' := []) [] (by decide) rfl
  have hKc := hK.sub (tys' := []) [] rfl
  have hFc := va_free (wc := []) hD hS hA [] rfl
  refine va_calli (va_runS (As := [.int 1, .int 0, .int 2]) (rest := []) ⟨hx, hb, hml, hown, hts⟩ (c_M_isIn_in l dC dI 1 0 2 s.heap.size (by decide) (by decide)) (va_cwS 3 hts (gS gd_549 tw_547 tw_548 tw_60) rfl rfl rfl (by decide +kernel) ⟨Nat.le_of_ble_eq_true rfl, Nat.le_of_ble_eq_true rfl⟩) ⟨cPre_blind, cPre_pre hPc hKc hDc hN⟩ rfl rfl hl.1 rfl (lv_room (Nat.le_of_ble_eq_true rfl)) d_p7_48_3 ⟨Nat.le_of_ble_eq_true rfl, Nat.le_of_ble_eq_true rfl⟩) hS (fun q _ h => hFc q h) hFc (fun r_1 u t H1 locs ht hvm hw hB hz1 hk1 hS => ?_)
  obtain ⟨hP1, hK1, hD1⟩ := hB
  rw [ht] at hP1
  obtain ⟨hP, hD⟩ := va_join (wr := [(qm, .inr (5, [.int 0, .ref z_isArc, .ref z_reaches, .ref z_knotOf, .int 0, .ref z_aheadOf, .ref z_rows, .ref z_deep, .ref z_left, .ref z_partOf, .ref z_sideOf, .ref z_isOdd, .int 0, .ref z_row]))]) (w1 := []) hP hD [] [0] rfl rfl (by decide) (by decide) hk1 hFc hP1 hD1
  generalize H1 = H at hP hS ⊢
  have hP : va_P (dC, dI) classes [(qm, .inr (5, [.int 0, .ref z_isArc, .ref z_reaches, .ref z_knotOf, .int 0, .ref z_aheadOf, .ref z_rows, .ref z_deep, .ref z_left, .ref z_partOf, .ref z_sideOf, .ref z_isOdd, .int 0, .ref z_row]))] H := hP
  have hD : va_D A [(qm, .inr (5, [.int 0, .ref z_isArc, .ref z_reaches, .ref z_knotOf, .int 0, .ref z_aheadOf, .ref z_rows, .ref z_deep, .ref z_left, .ref z_partOf, .ref z_sideOf, .ref z_isOdd, .int 0, .ref z_row]))] := hD
  obtain rfl : r_1 = (1 : Int32) := hw
  refine lv_if_ne (tgt := 12) hx hb d_p7_48_6 (by decide) (fun _ => ?_) (fun c => absurd c (by decide))
  refine lv_iload_n hx hb d_p7_48_12 rfl (lv_at hl 1 rfl) ?_
  refine lv_if_ne (tgt := 21) hx hb d_p7_48_13 (by decide) (fun _ => ?_) (fun c => absurd c (by decide))
  refine lv_iload_n hx hb d_p7_48_21 rfl (lv_at hl 1 rfl) ?_
  refine lv_iconst (v := 1) hx hb d_p7_48_22 (by decide) ?_
  refine lv_icmp_ne (tgt := 31) hx hb d_p7_48_23 (by decide) (fun c => absurd c (by decide)) (fun _ => ?_)
  refine lv_aload_n hx hb d_p7_48_26 rfl (lv_at hl 0 rfl) ?_
  have hPc := hP.sub (ws' := [(qm, .inr (5, [.int 0, .ref z_isArc, .ref z_reaches, .ref z_knotOf, .int 0, .ref z_aheadOf, .ref z_rows, .ref z_deep, .ref z_left, .ref z_partOf, .ref z_sideOf, .ref z_isOdd, .int 0, .ref z_row]))]) [0] rfl
  have hDc := hD.sub (ws' := [(qm, .inr (5, [.int 0, .ref z_isArc, .ref z_reaches, .ref z_knotOf, .int 0, .ref z_aheadOf, .ref z_rows, .ref z_deep, .ref z_left, .ref z_partOf, .ref z_sideOf, .ref z_isOdd, .int 0, .ref z_row]))]) [0] (by decide) rfl
  have hKc := hK.sub (tys' := []) [] rfl
  have hFc := va_free (wc := [(qm, .inr (5, [.int 0, .ref z_isArc, .ref z_reaches, .ref z_knotOf, .int 0, .ref z_aheadOf, .ref z_rows, .ref z_deep, .ref z_left, .ref z_partOf, .ref z_sideOf, .ref z_isOdd, .int 0, .ref z_row]))]) hD hS hA [0] rfl
  refine va_calli (va_runV (As := []) (rest := []) ⟨hx, hb, hml, hown, hts⟩ (c_M_arcs l dC dI qm z_isArc z_reaches z_knotOf z_aheadOf z_rows z_deep z_left z_partOf z_sideOf z_isOdd z_row H.size) (cwV 0 hts (gV gd_557 tw_554 tw_556 tw_38 tw_60) rfl rfl rfl (by decide +kernel) ⟨Nat.le_of_ble_eq_true rfl, Nat.le_of_ble_eq_true rfl⟩) ⟨cPre_blind, va_recv hKc hPc (ci := 5) (q0 := 0) rfl rfl, cPre_pre hPc hKc hDc hN⟩ rfl rfl hl.1 rfl (lv_room (Nat.le_of_ble_eq_true rfl)) d_p7_48_27 ⟨Nat.le_of_ble_eq_true rfl, Nat.le_of_ble_eq_true rfl⟩) hS (fun q _ h => hFc q h) hFc (fun r_2 u t H1 locs ht hvm hw hB hz1 hk1 hS => ?_)
  obtain ⟨hP1, hK1, hD1⟩ := hB
  rw [ht] at hP1
  obtain ⟨hP, hD⟩ := va_join (wr := []) (w1 := [(qm, .inr (5, [.int 0, .ref z_isArc, .ref z_reaches, .ref z_knotOf, .int 0, .ref z_aheadOf, .ref z_rows, .ref z_deep, .ref z_left, .ref z_partOf, .ref z_sideOf, .ref z_isOdd, .int 0, .ref z_row]))]) hP hD [0] [] rfl rfl (by decide) (by decide) hk1 hFc hP1 hD1
  generalize H1 = H at hP hS ⊢
  have hP : va_P (dC, dI) classes [(qm, .inr (5, [.int 0, .ref z_isArc, .ref z_reaches, .ref z_knotOf, .int 0, .ref z_aheadOf, .ref z_rows, .ref z_deep, .ref z_left, .ref z_partOf, .ref z_sideOf, .ref z_isOdd, .int 0, .ref z_row]))] H := hP
  have hD : va_D A [(qm, .inr (5, [.int 0, .ref z_isArc, .ref z_reaches, .ref z_knotOf, .int 0, .ref z_aheadOf, .ref z_rows, .ref z_deep, .ref z_left, .ref z_partOf, .ref z_sideOf, .ref z_isOdd, .int 0, .ref z_row]))] := hD
  obtain rfl : r_2 = (0 : Int32) := hw
  have hP9 := hP.sub (ws' := []) [] rfl
  have hD9 := hD.sub (ws' := []) [] (by decide) rfl
  have hK9 := hK.sub (tys' := []) [] rfl
  exact W.iret (v := 0) hx hb hr (fun t ht hW => ⟨⟨0, (), rfl, rfl, cEnd_mk hP9 hK9 hD9 ht hW⟩, hS.F ht⟩) hS.2.2 d_p7_48_30

set_option maxHeartbeats 4000000 in
set_option maxRecDepth 100000 in
theorem c_M_of_2 (l : Launch) (dC : Nat → ClassId) (dI : Nat → Nat → Nat) (qm : Nat) (z_isArc : Nat) (z_reaches : Nat) (z_knotOf : Nat) (z_aheadOf : Nat) (z_rows : Nat) (z_deep : Nat) (z_left : Nat) (z_partOf : Nat) (z_sideOf : Nat) (z_isOdd : Nat) (z_row : Nat) (sz : Nat) : Met l ({ cls := "StrongPartsModel", name := "of", desc := "(I)I" } : Jvm.MethodName) (ww ({ cls := "StrongPartsModel", name := "of", desc := "(I)I" } : Jvm.MethodName) prog_7_method_48_code 5 (some .int)) ({ frames := 1, cells := 0, slots := 0, locals := 22 }) (va_Pc [.ref qm, .int 2] (cPre (dC, dI) [(qm, .inr (5, [.int 0, .ref z_isArc, .ref z_reaches, .ref z_knotOf, .int 0, .ref z_aheadOf, .ref z_rows, .ref z_deep, .ref z_left, .ref z_partOf, .ref z_sideOf, .ref z_isOdd, .int 0, .ref z_row]))] [] sz)) (va_Qi (fun (r : Int32) (_ : Unit) => r = 0) (cEnd (dC, dI) [] [] (va_A [(qm, .inr (5, [.int 0, .ref z_isArc, .ref z_reaches, .ref z_knotOf, .int 0, .ref z_aheadOf, .ref z_rows, .ref z_deep, .ref z_left, .ref z_partOf, .ref z_sideOf, .ref z_isOdd, .int 0, .ref z_row]))] sz)) (va_A [(qm, .inr (5, [.int 0, .ref z_isArc, .ref z_reaches, .ref z_knotOf, .int 0, .ref z_aheadOf, .ref z_rows, .ref z_deep, .ref z_left, .ref z_partOf, .ref z_sideOf, .ref z_isOdd, .int 0, .ref z_row]))] sz)) 0 0 (va_A [(qm, .inr (5, [.int 0, .ref z_isArc, .ref z_reaches, .ref z_knotOf, .int 0, .ref z_aheadOf, .ref z_rows, .ref z_deep, .ref z_left, .ref z_partOf, .ref z_sideOf, .ref z_isOdd, .int 0, .ref z_row]))] sz) := by
  refine Met.ofW (cc := prog_7_method_48_code) (maxL := 5) (ret := (some .int)) (by decide) rfl ?_
  intro p e s m args below meth c s₁ B hml hv
  obtain ⟨rfl, hsz, hP, hK, hD0, hN⟩ := hv
  have hx := B.exec
  have hb := B.bytes
  have hr := B.returns
  have hts := ww_hts (atoms_spec (ws := ww ({ cls := "StrongPartsModel", name := "of", desc := "(I)I" } : Jvm.MethodName) prog_7_method_48_code 5 (some .int)) B.pre)
  have hown : s.vm.findClass "StrongPartsModel" = some m.cls := findClass_of_methodNamed B.named
  have hlocks := B.notSynchronized
  subst hsz
  have hD := hD0.self (sz := s.heap.size)
  generalize hAe : va_A [(qm, .inr (5, [.int 0, .ref z_isArc, .ref z_reaches, .ref z_knotOf, .int 0, .ref z_aheadOf, .ref z_rows, .ref z_deep, .ref z_left, .ref z_partOf, .ref z_sideOf, .ref z_isOdd, .int 0, .ref z_row]))] s.heap.size = A at hD ⊢
  have hA : ∀ q : Nat, s.heap.size ≤ q → A q := fun q h => by rw [← hAe]; exact Or.inr h
  have hS : va_S A s.heap s.heap [] := va_S.rf
  have hP : va_P (dC, dI) classes [(qm, .inr (5, [.int 0, .ref z_isArc, .ref z_reaches, .ref z_knotOf, .int 0, .ref z_aheadOf, .ref z_rows, .ref z_deep, .ref z_left, .ref z_partOf, .ref z_sideOf, .ref z_isOdd, .int 0, .ref z_row]))] s.heap := hP
  have hl := lv_entry ([.ref qm, .int 2]) (n := 5) (Nat.le_of_ble_eq_true rfl)
  rw [lg_entry_eq]
  generalize (lg_sl ([.ref qm, .int 2]) ++ List.replicate (5 - (lg_sl ([.ref qm, .int 2])).length) Slot.unset).toArray = ls at hl ⊢
  have hl : lv_has ls 5 [(0, .ref qm), (1, .int 2)] := hl
  refine lv_iload_n hx hb d_p7_48_0 rfl (lv_at hl 1 rfl) ?_
  refine lv_iconst (v := 0) hx hb d_p7_48_1 (by decide) ?_
  refine lv_iconst (v := 2) hx hb d_p7_48_2 (by decide) ?_
  have hPc := hP.sub (ws' := []) [] rfl
  have hDc := hD.sub (ws' := []) [] (by decide) rfl
  have hKc := hK.sub (tys' := []) [] rfl
  have hFc := va_free (wc := []) hD hS hA [] rfl
  refine va_calli (va_runS (As := [.int 2, .int 0, .int 2]) (rest := []) ⟨hx, hb, hml, hown, hts⟩ (c_M_isIn_in l dC dI 2 0 2 s.heap.size (by decide) (by decide)) (va_cwS 3 hts (gS gd_549 tw_547 tw_548 tw_60) rfl rfl rfl (by decide +kernel) ⟨Nat.le_of_ble_eq_true rfl, Nat.le_of_ble_eq_true rfl⟩) ⟨cPre_blind, cPre_pre hPc hKc hDc hN⟩ rfl rfl hl.1 rfl (lv_room (Nat.le_of_ble_eq_true rfl)) d_p7_48_3 ⟨Nat.le_of_ble_eq_true rfl, Nat.le_of_ble_eq_true rfl⟩) hS (fun q _ h => hFc q h) hFc (fun r_1 u t H1 locs ht hvm hw hB hz1 hk1 hS => ?_)
  obtain ⟨hP1, hK1, hD1⟩ := hB
  rw [ht] at hP1
  obtain ⟨hP, hD⟩ := va_join (wr := [(qm, .inr (5, [.int 0, .ref z_isArc, .ref z_reaches, .ref z_knotOf, .int 0, .ref z_aheadOf, .ref z_rows, .ref z_deep, .ref z_left, .ref z_partOf, .ref z_sideOf, .ref z_isOdd, .int 0, .ref z_row]))]) (w1 := []) hP hD [] [0] rfl rfl (by decide) (by decide) hk1 hFc hP1 hD1
  generalize H1 = H at hP hS ⊢
  have hP : va_P (dC, dI) classes [(qm, .inr (5, [.int 0, .ref z_isArc, .ref z_reaches, .ref z_knotOf, .int 0, .ref z_aheadOf, .ref z_rows, .ref z_deep, .ref z_left, .ref z_partOf, .ref z_sideOf, .ref z_isOdd, .int 0, .ref z_row]))] H := hP
  have hD : va_D A [(qm, .inr (5, [.int 0, .ref z_isArc, .ref z_reaches, .ref z_knotOf, .int 0, .ref z_aheadOf, .ref z_rows, .ref z_deep, .ref z_left, .ref z_partOf, .ref z_sideOf, .ref z_isOdd, .int 0, .ref z_row]))] := hD
  obtain rfl : r_1 = (1 : Int32) := hw
  refine lv_if_ne (tgt := 12) hx hb d_p7_48_6 (by decide) (fun _ => ?_) (fun c => absurd c (by decide))
  refine lv_iload_n hx hb d_p7_48_12 rfl (lv_at hl 1 rfl) ?_
  refine lv_if_ne (tgt := 21) hx hb d_p7_48_13 (by decide) (fun _ => ?_) (fun c => absurd c (by decide))
  refine lv_iload_n hx hb d_p7_48_21 rfl (lv_at hl 1 rfl) ?_
  refine lv_iconst (v := 1) hx hb d_p7_48_22 (by decide) ?_
  refine lv_icmp_ne (tgt := 31) hx hb d_p7_48_23 (by decide) (fun _ => ?_) (fun c => absurd c (by decide))
  refine lv_iconst (v := 0) hx hb d_p7_48_31 (by decide) ?_
  refine lv_istore_n (lv' := [(2, .int 0), (0, .ref qm), (1, .int 2)]) hx hb d_p7_48_32 rfl hl (by decide) rfl (fun ls hl => ?_)
  refine lv_iconst (v := 0) hx hb d_p7_48_33 (by decide) ?_
  refine lv_istore_n (lv' := [(3, .int 0), (2, .int 0), (0, .ref qm), (1, .int 2)]) hx hb d_p7_48_34 rfl hl (by decide) rfl (fun ls hl => ?_)
  refine lv_iload_n hx hb d_p7_48_35 rfl (lv_at hl 0 rfl) ?_
  refine lv_aload_n hx hb d_p7_48_36 rfl (lv_at hl 2 rfl) ?_
  refine va_get (D := (dC, dI)) (ci := 5) (v := .int 0) (C := "StrongPartsModel") (T := T_5) (N := 14) hx hb hts in_5 hown hK hP 0 rfl rfl 0 (by decide) (hts _ tw_487) (fun _ h9 => h9) rfl d_p7_48_37 ?_
  refine lv_icmp_ge (tgt := 95) hx hb d_p7_48_40 (by decide) (fun _ => ?_) (fun c => absurd (by decide) c)
  refine lv_iload_n hx hb d_p7_48_95 rfl (lv_at hl 1 rfl) ?_
  have hP9 := hP.sub (ws' := []) [] rfl
  have hD9 := hD.sub (ws' := []) [] (by decide) rfl
  have hK9 := hK.sub (tys' := []) [] rfl
  exact W.iret (v := 0) hx hb hr (fun t ht hW => ⟨⟨0, (), rfl, rfl, cEnd_mk hP9 hK9 hD9 ht hW⟩, hS.F ht⟩) hS.2.2 d_p7_48_96

set_option maxHeartbeats 4000000 in
set_option maxRecDepth 100000 in
theorem c_M_of_bad (l : Launch) (dC : Nat → ClassId) (dI : Nat → Nat → Nat) (qm : Nat) (z_isArc : Nat) (z_reaches : Nat) (z_knotOf : Nat) (z_aheadOf : Nat) (z_rows : Nat) (z_deep : Nat) (z_left : Nat) (z_partOf : Nat) (z_sideOf : Nat) (z_isOdd : Nat) (z_row : Nat) (p0 : Int32) (sz : Nat) (h : p0 < 0 ∨ 2 < p0) : Met l ({ cls := "StrongPartsModel", name := "of", desc := "(I)I" } : Jvm.MethodName) (ww ({ cls := "StrongPartsModel", name := "of", desc := "(I)I" } : Jvm.MethodName) prog_7_method_48_code 5 (some .int)) ({ frames := 1, cells := 0, slots := 0, locals := 22 }) (va_Pc [.ref qm, .int p0] (cPre (dC, dI) [(qm, .inr (5, [.int 0, .ref z_isArc, .ref z_reaches, .ref z_knotOf, .int 0, .ref z_aheadOf, .ref z_rows, .ref z_deep, .ref z_left, .ref z_partOf, .ref z_sideOf, .ref z_isOdd, .int 0, .ref z_row]))] [] sz)) (va_Qi (fun (r : Int32) (_ : Unit) => r = (-2)) (cEnd (dC, dI) [] [] (va_A [(qm, .inr (5, [.int 0, .ref z_isArc, .ref z_reaches, .ref z_knotOf, .int 0, .ref z_aheadOf, .ref z_rows, .ref z_deep, .ref z_left, .ref z_partOf, .ref z_sideOf, .ref z_isOdd, .int 0, .ref z_row]))] sz)) (va_A [(qm, .inr (5, [.int 0, .ref z_isArc, .ref z_reaches, .ref z_knotOf, .int 0, .ref z_aheadOf, .ref z_rows, .ref z_deep, .ref z_left, .ref z_partOf, .ref z_sideOf, .ref z_isOdd, .int 0, .ref z_row]))] sz)) 0 0 (va_A [(qm, .inr (5, [.int 0, .ref z_isArc, .ref z_reaches, .ref z_knotOf, .int 0, .ref z_aheadOf, .ref z_rows, .ref z_deep, .ref z_left, .ref z_partOf, .ref z_sideOf, .ref z_isOdd, .int 0, .ref z_row]))] sz) := by
  refine Met.ofW (cc := prog_7_method_48_code) (maxL := 5) (ret := (some .int)) (by decide) rfl ?_
  intro p e s m args below meth c s₁ B hml hv
  obtain ⟨rfl, hsz, hP, hK, hD0, hN⟩ := hv
  have hx := B.exec
  have hb := B.bytes
  have hr := B.returns
  have hts := ww_hts (atoms_spec (ws := ww ({ cls := "StrongPartsModel", name := "of", desc := "(I)I" } : Jvm.MethodName) prog_7_method_48_code 5 (some .int)) B.pre)
  have hown : s.vm.findClass "StrongPartsModel" = some m.cls := findClass_of_methodNamed B.named
  have hlocks := B.notSynchronized
  subst hsz
  have hD := hD0.self (sz := s.heap.size)
  generalize hAe : va_A [(qm, .inr (5, [.int 0, .ref z_isArc, .ref z_reaches, .ref z_knotOf, .int 0, .ref z_aheadOf, .ref z_rows, .ref z_deep, .ref z_left, .ref z_partOf, .ref z_sideOf, .ref z_isOdd, .int 0, .ref z_row]))] s.heap.size = A at hD ⊢
  have hA : ∀ q : Nat, s.heap.size ≤ q → A q := fun q h => by rw [← hAe]; exact Or.inr h
  have hS : va_S A s.heap s.heap [] := va_S.rf
  have hP : va_P (dC, dI) classes [(qm, .inr (5, [.int 0, .ref z_isArc, .ref z_reaches, .ref z_knotOf, .int 0, .ref z_aheadOf, .ref z_rows, .ref z_deep, .ref z_left, .ref z_partOf, .ref z_sideOf, .ref z_isOdd, .int 0, .ref z_row]))] s.heap := hP
  have hl := lv_entry ([.ref qm, .int p0]) (n := 5) (Nat.le_of_ble_eq_true rfl)
  rw [lg_entry_eq]
  generalize (lg_sl ([.ref qm, .int p0]) ++ List.replicate (5 - (lg_sl ([.ref qm, .int p0])).length) Slot.unset).toArray = ls at hl ⊢
  have hl : lv_has ls 5 [(0, .ref qm), (1, .int p0)] := hl
  refine lv_iload_n hx hb d_p7_48_0 rfl (lv_at hl 1 rfl) ?_
  refine lv_iconst (v := 0) hx hb d_p7_48_1 (by decide) ?_
  refine lv_iconst (v := 2) hx hb d_p7_48_2 (by decide) ?_
  have hPc := hP.sub (ws' := []) [] rfl
  have hDc := hD.sub (ws' := []) [] (by decide) rfl
  have hKc := hK.sub (tys' := []) [] rfl
  have hFc := va_free (wc := []) hD hS hA [] rfl
  refine va_calli (va_runS (As := [.int p0, .int 0, .int 2]) (rest := []) ⟨hx, hb, hml, hown, hts⟩ (c_M_isIn_out l dC dI p0 0 2 s.heap.size h) (va_cwS 3 hts (gS gd_549 tw_547 tw_548 tw_60) rfl rfl rfl (by decide +kernel) ⟨Nat.le_of_ble_eq_true rfl, Nat.le_of_ble_eq_true rfl⟩) ⟨cPre_blind, cPre_pre hPc hKc hDc hN⟩ rfl rfl hl.1 rfl (lv_room (Nat.le_of_ble_eq_true rfl)) d_p7_48_3 ⟨Nat.le_of_ble_eq_true rfl, Nat.le_of_ble_eq_true rfl⟩) hS (fun q _ h => hFc q h) hFc (fun r_1 u t H1 locs ht hvm hw hB hz1 hk1 hS => ?_)
  obtain ⟨hP1, hK1, hD1⟩ := hB
  rw [ht] at hP1
  obtain ⟨hP, hD⟩ := va_join (wr := [(qm, .inr (5, [.int 0, .ref z_isArc, .ref z_reaches, .ref z_knotOf, .int 0, .ref z_aheadOf, .ref z_rows, .ref z_deep, .ref z_left, .ref z_partOf, .ref z_sideOf, .ref z_isOdd, .int 0, .ref z_row]))]) (w1 := []) hP hD [] [0] rfl rfl (by decide) (by decide) hk1 hFc hP1 hD1
  generalize H1 = H at hP hS ⊢
  have hP : va_P (dC, dI) classes [(qm, .inr (5, [.int 0, .ref z_isArc, .ref z_reaches, .ref z_knotOf, .int 0, .ref z_aheadOf, .ref z_rows, .ref z_deep, .ref z_left, .ref z_partOf, .ref z_sideOf, .ref z_isOdd, .int 0, .ref z_row]))] H := hP
  have hD : va_D A [(qm, .inr (5, [.int 0, .ref z_isArc, .ref z_reaches, .ref z_knotOf, .int 0, .ref z_aheadOf, .ref z_rows, .ref z_deep, .ref z_left, .ref z_partOf, .ref z_sideOf, .ref z_isOdd, .int 0, .ref z_row]))] := hD
  obtain rfl : r_1 = (0 : Int32) := hw
  refine lv_if_ne (tgt := 12) hx hb d_p7_48_6 (by decide) (fun c => absurd c (by decide)) (fun _ => ?_)
  refine lv_bipush (v := (-2)) hx hb d_p7_48_9 (by decide) ?_
  have hP9 := hP.sub (ws' := []) [] rfl
  have hD9 := hD.sub (ws' := []) [] (by decide) rfl
  have hK9 := hK.sub (tys' := []) [] rfl
  exact W.iret (v := (-2)) hx hb hr (fun t ht hW => ⟨⟨(-2), (), rfl, rfl, cEnd_mk hP9 hK9 hD9 ht hW⟩, hS.F ht⟩) hS.2.2 d_p7_48_11
