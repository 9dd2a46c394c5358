set_option maxHeartbeats 4000000 in
set_option maxRecDepth 100000 in
theorem c_M_isIn_out (l : Launch) (dC : Nat → ClassId) (dI : Nat → Nat → Nat) (p0 : Int32) (p1 : Int32) (p2 : Int32) (sz : Nat) (h : p0 < p1 ∨ p2 < p0) : Met l ({ cls := "StrongPartsModel", name := "isIn", desc := "(III)Z" } : Jvm.MethodName) (ww ({ cls := "StrongPartsModel", name := "isIn", desc := "(III)Z" } : Jvm.MethodName) prog_7_method_3_code 3 (some .boolean)) ({ frames := 0, cells := 0, slots := 0, locals := 0 }) (va_Pc [.int p0, .int p1, .int p2] (cPre (dC, dI) [] [] sz)) (va_Qi (fun (r : Int32) (_ : Unit) => r = 0) (cEnd (dC, dI) [] [] (va_A [] sz)) (va_A [] sz)) 0 0 (va_A [] sz) := by
  refine Met.ofW (cc := prog_7_method_3_code) (maxL := 3) (ret := (some .boolean)) (by decide) rfl ?_
  intro p e s m args below meth c s₁ B hml hv
  obtain ⟨rfl, hsz, hP, hK, hD0, hN⟩ := hv
  have hx := B.exec
  have hb := B.bytes
  have hr := B.returns
  have hts := ww_hts (atoms_spec (ws := ww ({ cls := "StrongPartsModel", name := "isIn", desc := "(III)Z" } : Jvm.MethodName) prog_7_method_3_code 3 (some .boolean)) B.pre)
  have hown : s.vm.findClass "StrongPartsModel" = some m.cls := findClass_of_methodNamed B.named
  have hlocks := B.notSynchronized
  subst hsz
  have hD := hD0.self (sz := s.heap.size)
  generalize hAe : va_A [] s.heap.size = A at hD ⊢
  have hA : ∀ q : Nat, s.heap.size ≤ q → A q := fun q h => by rw [← hAe]; exact Or.inr h
  have hS : va_S A s.heap s.heap [] := va_S.rf
  have hP : va_P (dC, dI) classes [] s.heap := hP
  have hl := lv_entry ([.int p0, .int p1, .int p2]) (n := 3) (Nat.le_of_ble_eq_true rfl)
  rw [lg_entry_eq]
  generalize (lg_sl ([.int p0, .int p1, .int p2]) ++ List.replicate (3 - (lg_sl ([.int p0, .int p1, .int p2])).length) Slot.unset).toArray = ls at hl ⊢
  have hl : lv_has ls 3 [(0, .int p0), (1, .int p1), (2, .int p2)] := hl
  refine lv_iload_n hx hb d_p7_3_0 rfl (lv_at hl 0 rfl) ?_
  refine lv_iload_n hx hb d_p7_3_1 rfl (lv_at hl 1 rfl) ?_
  refine lv_icmp_lt (tgt := 14) hx hb d_p7_3_2 (by decide) (fun c_2 => ?_) (fun c_2 => ?_)
  · refine lv_iconst (v := 0) hx hb d_p7_3_14 (by decide) ?_
    have hP9 := hP.sub (ws' := []) [] rfl
    have hD9 := hD.sub (ws' := []) [] (by decide) rfl
    have hK9 := hK.sub (tys' := []) [] rfl
    exact W.zret (v := 0) hx hb hr rfl (fun t ht hW => ⟨⟨0, (), rfl, rfl, cEnd_mk hP9 hK9 hD9 ht hW⟩, hS.F ht⟩) hS.2.2 d_p7_3_15
  · refine lv_iload_n hx hb d_p7_3_5 rfl (lv_at hl 0 rfl) ?_
    refine lv_iload_n hx hb d_p7_3_6 rfl (lv_at hl 2 rfl) ?_
    refine lv_icmp_gt (tgt := 14) hx hb d_p7_3_7 (by decide) (fun c_7 => ?_) (fun c_7 => h.elim (fun h => absurd h c_2) (fun h => absurd h c_7))
    refine lv_iconst (v := 0) hx hb d_p7_3_14 (by decide) ?_
    have hP9 := hP.sub (ws' := []) [] rfl
    have hD9 := hD.sub (ws' := []) [] (by decide) rfl
    have hK9 := hK.sub (tys' := []) [] rfl
    exact W.zret (v := 0) hx hb hr rfl (fun t ht hW => ⟨⟨0, (), rfl, rfl, cEnd_mk hP9 hK9 hD9 ht hW⟩, hS.F ht⟩) hS.2.2 d_p7_3_15

set_option maxHeartbeats 4000000 in
set_option maxRecDepth 100000 in
theorem c_M_isIn_in (l : Launch) (dC : Nat → ClassId) (dI : Nat → Nat → Nat) (p0 : Int32) (p1 : Int32) (p2 : Int32) (sz : Nat) (h1 : ¬ p0 < p1) (h2 : ¬ p2 < p0) : Met l ({ cls := "StrongPartsModel", name := "isIn", desc := "(III)Z" } : Jvm.MethodName) (ww ({ cls := "StrongPartsModel", name := "isIn", desc := "(III)Z" } : Jvm.MethodName) prog_7_method_3_code 3 (some .boolean)) ({ frames := 0, cells := 0, slots := 0, locals := 0 }) (va_Pc [.int p0, .int p1, .int p2] (cPre (dC, dI) [] [] sz)) (va_Qi (fun (r : Int32) (_ : Unit) => r = 1) (cEnd (dC, dI) [] [] (va_A [] sz)) (va_A [] sz)) 0 0 (va_A [] sz) := by
  refine Met.ofW (cc := prog_7_method_3_code) (maxL := 3) (ret := (some .boolean)) (by decide) rfl ?_
  intro p e s m args below meth c s₁ B hml hv
  obtain ⟨rfl, hsz, hP, hK, hD0, hN⟩ := hv
  have hx := B.exec
  have hb := B.bytes
  have hr := B.returns
  have hts := ww_hts (atoms_spec (ws := ww ({ cls := "StrongPartsModel", name := "isIn", desc := "(III)Z" } : Jvm.MethodName) prog_7_method_3_code 3 (some .boolean)) B.pre)
  have hown : s.vm.findClass "StrongPartsModel" = some m.cls := findClass_of_methodNamed B.named
  have hlocks := B.notSynchronized
  subst hsz
  have hD := hD0.self (sz := s.heap.size)
  generalize hAe : va_A [] s.heap.size = A at hD ⊢
  have hA : ∀ q : Nat, s.heap.size ≤ q → A q := fun q h => by rw [← hAe]; exact Or.inr h
  have hS : va_S A s.heap s.heap [] := va_S.rf
  have hP : va_P (dC, dI) classes [] s.heap := hP
  have hl := lv_entry ([.int p0, .int p1, .int p2]) (n := 3) (Nat.le_of_ble_eq_true rfl)
  rw [lg_entry_eq]
  generalize (lg_sl ([.int p0, .int p1, .int p2]) ++ List.replicate (3 - (lg_sl ([.int p0, .int p1, .int p2])).length) Slot.unset).toArray = ls at hl ⊢
  have hl : lv_has ls 3 [(0, .int p0), (1, .int p1), (2, .int p2)] := hl
  refine lv_iload_n hx hb d_p7_3_0 rfl (lv_at hl 0 rfl) ?_
  refine lv_iload_n hx hb d_p7_3_1 rfl (lv_at hl 1 rfl) ?_
  refine lv_icmp_lt (tgt := 14) hx hb d_p7_3_2 (by decide) (fun c_2 => absurd c_2 h1) (fun c_2 => ?_)
  refine lv_iload_n hx hb d_p7_3_5 rfl (lv_at hl 0 rfl) ?_
  refine lv_iload_n hx hb d_p7_3_6 rfl (lv_at hl 2 rfl) ?_
  refine lv_icmp_gt (tgt := 14) hx hb d_p7_3_7 (by decide) (fun c_7 => absurd c_7 h2) (fun c_7 => ?_)
  refine lv_iconst (v := 1) hx hb d_p7_3_10 (by decide) ?_
  refine lv_goto (tgt := 15) hx hb d_p7_3_11 (by decide) ?_
  have hP9 := hP.sub (ws' := []) [] rfl
  have hD9 := hD.sub (ws' := []) [] (by decide) rfl
  have hK9 := hK.sub (tys' := []) [] rfl
  exact W.zret (v := 1) hx hb hr rfl (fun t ht hW => ⟨⟨1, (), rfl, rfl, cEnd_mk hP9 hK9 hD9 ht hW⟩, hS.F ht⟩) hS.2.2 d_p7_3_15

set_option maxHeartbeats 4000000 in
set_option maxRecDepth 100000 in
theorem c_M_isNode (l : Launch) (dC : Nat → ClassId) (dI : Nat → Nat → Nat) (qm : Nat) (z_isArc : Nat) (z_reaches : Nat) (z_knotOf : Nat) (z_aheadOf : Nat) (z_rows : Nat) (z_deep : Nat) (z_left : Nat) (z_partOf : Nat) (z_sideOf : Nat) (z_isOdd : Nat) (z_row : Nat) (p0 : Int32) (sz : Nat) : Met l ({ cls := "StrongPartsModel", name := "isNode", desc := "(I)Z" } : Jvm.MethodName) (ww ({ cls := "StrongPartsModel", name := "isNode", desc := "(I)Z" } : Jvm.MethodName) prog_7_method_4_code 2 (some .boolean)) ({ frames := 1, cells := 0, slots := 0, locals := 22 }) (va_Pc [.ref qm, .int p0] (cPre (dC, dI) [(qm, .inr (5, [.int 0, .ref z_isArc, .ref z_reaches, .ref z_knotOf, .int 0, .ref z_aheadOf, .ref z_rows, .ref z_deep, .ref z_left, .ref z_partOf, .ref z_sideOf, .ref z_isOdd, .int 0, .ref z_row]))] [] sz)) (va_Qi (fun (r : Int32) (_ : Unit) => r = 0) (cEnd (dC, dI) [(qm, .inr (5, [.int 0, .ref z_isArc, .ref z_reaches, .ref z_knotOf, .int 0, .ref z_aheadOf, .ref z_rows, .ref z_deep, .ref z_left, .ref z_partOf, .ref z_sideOf, .ref z_isOdd, .int 0, .ref z_row]))] [] (va_A [(qm, .inr (5, [.int 0, .ref z_isArc, .ref z_reaches, .ref z_knotOf, .int 0, .ref z_aheadOf, .ref z_rows, .ref z_deep, .ref z_left, .ref z_partOf, .ref z_sideOf, .ref z_isOdd, .int 0, .ref z_row]))] sz)) (va_A [(qm, .inr (5, [.int 0, .ref z_isArc, .ref z_reaches, .ref z_knotOf, .int 0, .ref z_aheadOf, .ref z_rows, .ref z_deep, .ref z_left, .ref z_partOf, .ref z_sideOf, .ref z_isOdd, .int 0, .ref z_row]))] sz)) 0 0 (va_A [(qm, .inr (5, [.int 0, .ref z_isArc, .ref z_reaches, .ref z_knotOf, .int 0, .ref z_aheadOf, .ref z_rows, .ref z_deep, .ref z_left, .ref z_partOf, .ref z_sideOf, .ref z_isOdd, .int 0, .ref z_row]))] sz) := by
  refine Met.ofW (cc := prog_7_method_4_code) (maxL := 2) (ret := (some .boolean)) (by decide) rfl ?_
  intro p e s m args below meth c s₁ B hml hv
  obtain ⟨rfl, hsz, hP, hK, hD0, hN⟩ := hv
  have hx := B.exec
  have hb := B.bytes
  have hr := B.returns
  have hts := ww_hts (atoms_spec (ws := ww ({ cls := "StrongPartsModel", name := "isNode", desc := "(I)Z" } : Jvm.MethodName) prog_7_method_4_code 2 (some .boolean)) B.pre)
  have hown : s.vm.findClass "StrongPartsModel" = some m.cls := findClass_of_methodNamed B.named
  have hlocks := B.notSynchronized
  subst hsz
  have hD := hD0.self (sz := s.heap.size)
  generalize hAe : va_A [(qm, .inr (5, [.int 0, .ref z_isArc, .ref z_reaches, .ref z_knotOf, .int 0, .ref z_aheadOf, .ref z_rows, .ref z_deep, .ref z_left, .ref z_partOf, .ref z_sideOf, .ref z_isOdd, .int 0, .ref z_row]))] s.heap.size = A at hD ⊢
  have hA : ∀ q : Nat, s.heap.size ≤ q → A q := fun q h => by rw [← hAe]; exact Or.inr h
  have hS : va_S A s.heap s.heap [] := va_S.rf
  have hP : va_P (dC, dI) classes [(qm, .inr (5, [.int 0, .ref z_isArc, .ref z_reaches, .ref z_knotOf, .int 0, .ref z_aheadOf, .ref z_rows, .ref z_deep, .ref z_left, .ref z_partOf, .ref z_sideOf, .ref z_isOdd, .int 0, .ref z_row]))] s.heap := hP
  have hl := lv_entry ([.ref qm, .int p0]) (n := 2) (Nat.le_of_ble_eq_true rfl)
  rw [lg_entry_eq]
  generalize (lg_sl ([.ref qm, .int p0]) ++ List.replicate (2 - (lg_sl ([.ref qm, .int p0])).length) Slot.unset).toArray = ls at hl ⊢
  have hl : lv_has ls 2 [(0, .ref qm), (1, .int p0)] := hl
  refine lv_iload_n hx hb d_p7_4_0 rfl (lv_at hl 1 rfl) ?_
  refine lv_iconst (v := 0) hx hb d_p7_4_1 (by decide) ?_
  refine lv_aload_n hx hb d_p7_4_2 rfl (lv_at hl 0 rfl) ?_
  refine va_get (D := (dC, dI)) (ci := 5) (v := .int 0) (C := "StrongPartsModel") (T := T_5) (N := 14) hx hb hts in_5 hown hK hP 0 rfl rfl 0 (by decide) (hts _ tw_487) (fun _ h9 => h9) rfl d_p7_4_3 ?_
  refine lv_iconst (v := 1) hx hb d_p7_4_6 (by decide) ?_
  refine lv_isub hx hb d_p7_4_7 ?_
  refine lv_topi (fun z_1 ez_1 => ?_)
  obtain rfl : z_1 = ((-1) : Int32) := ez_1.trans (by decide)
  have hPc := hP.sub (ws' := []) [] rfl
  have hDc := hD.sub (ws' := []) [] (by decide) rfl
  have hKc := hK.sub (tys' := []) [] rfl
  have hFc := va_free (wc := []) hD hS hA [] rfl
  refine va_calli (va_runS (As := [.int p0, .int 0, .int (-1)]) (rest := []) ⟨hx, hb, hml, hown, hts⟩ (c_M_isIn_out l dC dI p0 0 (-1) s.heap.size (out_m1 p0)) (va_cwS 3 hts (gS gd_549 tw_547 tw_548 tw_60) rfl rfl rfl (by decide +kernel) ⟨Nat.le_of_ble_eq_true rfl, Nat.le_of_ble_eq_true rfl⟩) ⟨cPre_blind, cPre_pre hPc hKc hDc hN⟩ rfl rfl hl.1 rfl (lv_room (Nat.le_of_ble_eq_true rfl)) d_p7_4_8 ⟨Nat.le_of_ble_eq_true rfl, Nat.le_of_ble_eq_true rfl⟩) hS (fun q _ h => hFc q h) hFc (fun r_2 u t H1 locs ht hvm hw hB hz1 hk1 hS => ?_)
  obtain ⟨hP1, hK1, hD1⟩ := hB
  rw [ht] at hP1
  obtain ⟨hP, hD⟩ := va_join (wr := [(qm, .inr (5, [.int 0, .ref z_isArc, .ref z_reaches, .ref z_knotOf, .int 0, .ref z_aheadOf, .ref z_rows, .ref z_deep, .ref z_left, .ref z_partOf, .ref z_sideOf, .ref z_isOdd, .int 0, .ref z_row]))]) (w1 := []) hP hD [] [0] rfl rfl (by decide) (by decide) hk1 hFc hP1 hD1
  generalize H1 = H at hP hS ⊢
  have hP : va_P (dC, dI) classes [(qm, .inr (5, [.int 0, .ref z_isArc, .ref z_reaches, .ref z_knotOf, .int 0, .ref z_aheadOf, .ref z_rows, .ref z_deep, .ref z_left, .ref z_partOf, .ref z_sideOf, .ref z_isOdd, .int 0, .ref z_row]))] H := hP
  have hD : va_D A [(qm, .inr (5, [.int 0, .ref z_isArc, .ref z_reaches, .ref z_knotOf, .int 0, .ref z_aheadOf, .ref z_rows, .ref z_deep, .ref z_left, .ref z_partOf, .ref z_sideOf, .ref z_isOdd, .int 0, .ref z_row]))] := hD
  obtain rfl : r_2 = (0 : Int32) := hw
  have hP9 := hP.sub (ws' := [(qm, .inr (5, [.int 0, .ref z_isArc, .ref z_reaches, .ref z_knotOf, .int 0, .ref z_aheadOf, .ref z_rows, .ref z_deep, .ref z_left, .ref z_partOf, .ref z_sideOf, .ref z_isOdd, .int 0, .ref z_row]))]) [0] rfl
  have hD9 := hD.sub (ws' := [(qm, .inr (5, [.int 0, .ref z_isArc, .ref z_reaches, .ref z_knotOf, .int 0, .ref z_aheadOf, .ref z_rows, .ref z_deep, .ref z_left, .ref z_partOf, .ref z_sideOf, .ref z_isOdd, .int 0, .ref z_row]))]) [0] (by decide) rfl
  have hK9 := hK.sub (tys' := []) [] rfl
  exact W.zret (v := 0) hx hb hr rfl (fun t ht hW => ⟨⟨0, (), rfl, rfl, cEnd_mk hP9 hK9 hD9 ht hW⟩, hS.F ht⟩) hS.2.2 d_p7_4_11

set_option maxHeartbeats 4000000 in
set_option maxRecDepth 100000 in
theorem c_M_arcs (l : Launch) (dC : Nat → ClassId) (dI : Nat → Nat → Nat) (qm : Nat) (z_isArc : Nat) (z_reaches : Nat) (z_knotOf : Nat) (z_aheadOf : Nat) (z_rows : Nat) (z_deep : Nat) (z_left : Nat) (z_partOf : Nat) (z_sideOf : Nat) (z_isOdd : Nat) (z_row : Nat) (sz : Nat) : Met l ({ cls := "StrongPartsModel", name := "arcs", desc := "()I" } : Jvm.MethodName) (ww ({ cls := "StrongPartsModel", name := "arcs", desc := "()I" } : Jvm.MethodName) prog_7_method_7_code 4 (some .int)) ({ frames := 0, cells := 0, slots := 0, locals := 0 }) (va_Pc [.ref qm] (cPre (dC, dI) [(qm, .inr (5, [.int 0, .ref z_isArc, .ref z_reaches, .ref z_knotOf, .int 0, .ref z_aheadOf, .ref z_rows, .ref z_deep, .ref z_left, .ref z_partOf, .ref z_sideOf, .ref z_isOdd, .int 0, .ref z_row]))] [] sz)) (va_Qi (fun (r : Int32) (_ : Unit) => r = 0) (cEnd (dC, dI) [(qm, .inr (5, [.int 0, .ref z_isArc, .ref z_reaches, .ref z_knotOf, .int 0, .ref z_aheadOf, .ref z_rows, .ref z_deep, .ref z_left, .ref z_partOf, .ref z_sideOf, .ref z_isOdd, .int 0, .ref z_row]))] [] (va_A [(qm, .inr (5, [.int 0, .ref z_isArc, .ref z_reaches, .ref z_knotOf, .int 0, .ref z_aheadOf, .ref z_rows, .ref z_deep, .ref z_left, .ref z_partOf, .ref z_sideOf, .ref z_isOdd, .int 0, .ref z_row]))] sz)) (va_A [(qm, .inr (5, [.int 0, .ref z_isArc, .ref z_reaches, .ref z_knotOf, .int 0, .ref z_aheadOf, .ref z_rows, .ref z_deep, .ref z_left, .ref z_partOf, .ref z_sideOf, .ref z_isOdd, .int 0, .ref z_row]))] sz)) 0 0 (va_A [(qm, .inr (5, [.int 0, .ref z_isArc, .ref z_reaches, .ref z_knotOf, .int 0, .ref z_aheadOf, .ref z_rows, .ref z_deep, .ref z_left, .ref z_partOf, .ref z_sideOf, .ref z_isOdd, .int 0, .ref z_row]))] sz) := by
  refine Met.ofW (cc := prog_7_method_7_code) (maxL := 4) (ret := (some .int)) (by decide) rfl ?_
  intro p e s m args below meth c s₁ B hml hv
  obtain ⟨rfl, hsz, hP, hK, hD0, hN⟩ := hv
  have hx := B.exec
  have hb := B.bytes
  have hr := B.returns
  have hts := ww_hts (atoms_spec (ws := ww ({ cls := "StrongPartsModel", name := "arcs", desc := "()I" } : Jvm.MethodName) prog_7_method_7_code 4 (some .int)) B.pre)
  have hown : s.vm.findClass "StrongPartsModel" = some m.cls := findClass_of_methodNamed B.named
  have hlocks := B.notSynchronized
  subst hsz
  have hD := hD0.self (sz := s.heap.size)
  generalize hAe : va_A [(qm, .inr (5, [.int 0, .ref z_isArc, .ref z_reaches, .ref z_knotOf, .int 0, .ref z_aheadOf, .ref z_rows, .ref z_deep, .ref z_left, .ref z_partOf, .ref z_sideOf, .ref z_isOdd, .int 0, .ref z_row]))] s.heap.size = A at hD ⊢
  have hA : ∀ q : Nat, s.heap.size ≤ q → A q := fun q h => by rw [← hAe]; exact Or.inr h
  have hS : va_S A s.heap s.heap [] := va_S.rf
  have hP : va_P (dC, dI) classes [(qm, .inr (5, [.int 0, .ref z_isArc, .ref z_reaches, .ref z_knotOf, .int 0, .ref z_aheadOf, .ref z_rows, .ref z_deep, .ref z_left, .ref z_partOf, .ref z_sideOf, .ref z_isOdd, .int 0, .ref z_row]))] s.heap := hP
  have hl := lv_entry ([.ref qm]) (n := 4) (Nat.le_of_ble_eq_true rfl)
  rw [lg_entry_eq]
  generalize (lg_sl ([.ref qm]) ++ List.replicate (4 - (lg_sl ([.ref qm])).length) Slot.unset).toArray = ls at hl ⊢
  have hl : lv_has ls 4 [(0, .ref qm)] := hl
  refine lv_iconst (v := 0) hx hb d_p7_7_0 (by decide) ?_
  refine lv_istore_n (lv' := [(1, .int 0), (0, .ref qm)]) hx hb d_p7_7_1 rfl hl (by decide) rfl (fun ls hl => ?_)
  refine lv_iconst (v := 0) hx hb d_p7_7_2 (by decide) ?_
  refine lv_istore_n (lv' := [(2, .int 0), (1, .int 0), (0, .ref qm)]) hx hb d_p7_7_3 rfl hl (by decide) rfl (fun ls hl => ?_)
  refine lv_iload_n hx hb d_p7_7_4 rfl (lv_at hl 0 rfl) ?_
  refine lv_aload_n hx hb d_p7_7_5 rfl (lv_at hl 2 rfl) ?_
  refine va_get (D := (dC, dI)) (ci := 5) (v := .int 0) (C := "StrongPartsModel") (T := T_5) (N := 14) hx hb hts in_5 hown hK hP 0 rfl rfl 0 (by decide) (hts _ tw_487) (fun _ h9 => h9) rfl d_p7_7_6 ?_
  refine lv_icmp_ge (tgt := 51) hx hb d_p7_7_9 (by decide) (fun _ => ?_) (fun c => absurd (by decide) c)
  refine lv_iload_n hx hb d_p7_7_51 rfl (lv_at hl 1 rfl) ?_
  have hP9 := hP.sub (ws' := [(qm, .inr (5, [.int 0, .ref z_isArc, .ref z_reaches, .ref z_knotOf, .int 0, .ref z_aheadOf, .ref z_rows, .ref z_deep, .ref z_left, .ref z_partOf, .ref z_sideOf, .ref z_isOdd, .int 0, .ref z_row]))]) [0] rfl
  have hD9 := hD.sub (ws' := [(qm, .inr (5, [.int 0, .ref z_isArc, .ref z_reaches, .ref z_knotOf, .int 0, .ref z_aheadOf, .ref z_rows, .ref z_deep, .ref z_left, .ref z_partOf, .ref z_sideOf, .ref z_isOdd, .int 0, .ref z_row]))]) [0] (by decide) rfl
  have hK9 := hK.sub (tys' := []) [] rfl
  exact W.iret (v := 0) hx hb hr (fun t ht hW => ⟨⟨0, (), rfl, rfl, cEnd_mk hP9 hK9 hD9 ht hW⟩, hS.F ht⟩) hS.2.2 d_p7_7_52

set_option maxHeartbeats 4000000 in
set_option maxRecDepth 100000 in
theorem c_M_learn (l : Launch) (dC : Nat → ClassId) (dI : Nat → Nat → Nat) (qm : Nat) (z_isArc : Nat) (z_reaches : Nat) (z_knotOf : Nat) (z_aheadOf : Nat) (z_rows : Nat) (z_deep : Nat) (z_left : Nat) (z_partOf : Nat) (z_sideOf : Nat) (z_isOdd : Nat) (z_row : Nat) (sz : Nat) : Met l ({ cls := "StrongPartsModel", name := "learn", desc := "(I)V" } : Jvm.MethodName) (ww ({ cls := "StrongPartsModel", name := "learn", desc := "(I)V" } : Jvm.MethodName) prog_7_method_10_code 5 none) ({ frames := 0, cells := 0, slots := 0, locals := 0 }) (va_Pc [.ref qm, .int 0] (cPre (dC, dI) [(qm, .inr (5, [.int 0, .ref z_isArc, .ref z_reaches, .ref z_knotOf, .int 0, .ref z_aheadOf, .ref z_rows, .ref z_deep, .ref z_left, .ref z_partOf, .ref z_sideOf, .ref z_isOdd, .int 0, .ref z_row]))] [] sz)) (va_Qv (fun _ : Unit => True) (cEnd (dC, dI) [(qm, .inr (5, [.int 0, .ref z_isArc, .ref z_reaches, .ref z_knotOf, .int 0, .ref z_aheadOf, .ref z_rows, .ref z_deep, .ref z_left, .ref z_partOf, .ref z_sideOf, .ref z_isOdd, .int 0, .ref z_row]))] [] (va_A [(qm, .inr (5, [.int 0, .ref z_isArc, .ref z_reaches, .ref z_knotOf, .int 0, .ref z_aheadOf, .ref z_rows, .ref z_deep, .ref z_left, .ref z_partOf, .ref z_sideOf, .ref z_isOdd, .int 0, .ref z_row]))] sz)) (va_A [(qm, .inr (5, [.int 0, .ref z_isArc, .ref z_reaches, .ref z_knotOf, .int 0, .ref z_aheadOf, .ref z_rows, .ref z_deep, .ref z_left, .ref z_partOf, .ref z_sideOf, .ref z_isOdd, .int 0, .ref z_row]))] sz)) 0 0 (va_A [(qm, .inr (5, [.int 0, .ref z_isArc, .ref z_reaches, .ref z_knotOf, .int 0, .ref z_aheadOf, .ref z_rows, .ref z_deep, .ref z_left, .ref z_partOf, .ref z_sideOf, .ref z_isOdd, .int 0, .ref z_row]))] sz) := by
  refine Met.ofW (cc := prog_7_method_10_code) (maxL := 5) (ret := none) (by decide) rfl ?_
  intro p e s m args below meth c s₁ B hml hv
  obtain ⟨rfl, hsz, hP, hK, hD0, hN⟩ := hv
  have hx := B.exec
  have hb := B.bytes
  have hr := B.returns
  have hts := ww_hts (atoms_spec (ws := ww ({ cls := "StrongPartsModel", name := "learn", desc := "(I)V" } : Jvm.MethodName) prog_7_method_10_code 5 none) B.pre)
  have hown : s.vm.findClass "StrongPartsModel" = some m.cls := findClass_of_methodNamed B.named
  have hlocks := B.notSynchronized
  subst hsz
  have hD := hD0.self (sz := s.heap.size)
  generalize hAe : va_A [(qm, .inr (5, [.int 0, .ref z_isArc, .ref z_reaches, .ref z_knotOf, .int 0, .ref z_aheadOf, .ref z_rows, .ref z_deep, .ref z_left, .ref z_partOf, .ref z_sideOf, .ref z_isOdd, .int 0, .ref z_row]))] s.heap.size = A at hD ⊢
  have hA : ∀ q : Nat, s.heap.size ≤ q → A q := fun q h => by rw [← hAe]; exact Or.inr h
  have hS : va_S A s.heap s.heap [] := va_S.rf
  have hP : va_P (dC, dI) classes [(qm, .inr (5, [.int 0, .ref z_isArc, .ref z_reaches, .ref z_knotOf, .int 0, .ref z_aheadOf, .ref z_rows, .ref z_deep, .ref z_left, .ref z_partOf, .ref z_sideOf, .ref z_isOdd, .int 0, .ref z_row]))] s.heap := hP
  have hl := lv_entry ([.ref qm, .int 0]) (n := 5) (Nat.le_of_ble_eq_true rfl)
  rw [lg_entry_eq]
  generalize (lg_sl ([.ref qm, .int 0]) ++ List.replicate (5 - (lg_sl ([.ref qm, .int 0])).length) Slot.unset).toArray = ls at hl ⊢
  have hl : lv_has ls 5 [(0, .ref qm), (1, .int 0)] := hl
  refine lv_iconst (v := 0) hx hb d_p7_10_0 (by decide) ?_
  refine lv_istore_n (lv' := [(2, .int 0), (0, .ref qm), (1, .int 0)]) hx hb d_p7_10_1 rfl hl (by decide) rfl (fun ls hl => ?_)
  refine lv_iload_n hx hb d_p7_10_2 rfl (lv_at hl 0 rfl) ?_
  refine lv_aload_n hx hb d_p7_10_3 rfl (lv_at hl 1 rfl) ?_
  refine va_get (D := (dC, dI)) (ci := 5) (v := .int 0) (C := "StrongPartsModel") (T := T_5) (N := 14) hx hb hts in_5 hown hK hP 0 rfl rfl 0 (by decide) (hts _ tw_487) (fun _ h9 => h9) rfl d_p7_10_4 ?_
  refine lv_icmp_ge (tgt := 90) hx hb d_p7_10_7 (by decide) (fun _ => ?_) (fun c => absurd (by decide) c)
  refine lv_iconst (v := 0) hx hb d_p7_10_90 (by decide) ?_
  refine lv_istore_n (lv' := [(2, .int 0), (0, .ref qm), (1, .int 0)]) hx hb d_p7_10_91 rfl hl (by decide) rfl (fun ls hl => ?_)
  refine lv_iload_n hx hb d_p7_10_92 rfl (lv_at hl 0 rfl) ?_
  refine lv_aload_n hx hb d_p7_10_93 rfl (lv_at hl 1 rfl) ?_
  refine va_get (D := (dC, dI)) (ci := 5) (v := .int 0) (C := "StrongPartsModel") (T := T_5) (N := 14) hx hb hts in_5 hown hK hP 0 rfl rfl 0 (by decide) (hts _ tw_487) (fun _ h9 => h9) rfl d_p7_10_94 ?_
  refine lv_icmp_ge (tgt := 189) hx hb d_p7_10_97 (by decide) (fun _ => ?_) (fun c => absurd (by decide) c)
  have hP9 := hP.sub (ws' := [(qm, .inr (5, [.int 0, .ref z_isArc, .ref z_reaches, .ref z_knotOf, .int 0, .ref z_aheadOf, .ref z_rows, .ref z_deep, .ref z_left, .ref z_partOf, .ref z_sideOf, .ref z_isOdd, .int 0, .ref z_row]))]) [0] rfl
  have hD9 := hD.sub (ws' := [(qm, .inr (5, [.int 0, .ref z_isArc, .ref z_reaches, .ref z_knotOf, .int 0, .ref z_aheadOf, .ref z_rows, .ref z_deep, .ref z_left, .ref z_partOf, .ref z_sideOf, .ref z_isOdd, .int 0, .ref z_row]))]) [0] (by decide) rfl
  have hK9 := hK.sub (tys' := []) [] rfl
  exact W.vret hx hb hr (fun t ht hW => ⟨⟨(), rfl, trivial, cEnd_mk hP9 hK9 hD9 ht hW⟩, hS.F ht⟩) hS.2.2 d_p7_10_189

set_option maxHeartbeats 4000000 in
set_option maxRecDepth 100000 in
theorem c_M_tie (l : Launch) (dC : Nat → ClassId) (dI : Nat → Nat → Nat) (qm : Nat) (z_isArc : Nat) (z_reaches : Nat) (z_knotOf : Nat) (z_aheadOf : Nat) (z_rows : Nat) (z_deep : Nat) (z_left : Nat) (z_partOf : Nat) (z_sideOf : Nat) (z_isOdd : Nat) (z_row : Nat) (sz : Nat) : Met l ({ cls := "StrongPartsModel", name := "tie", desc := "()V" } : Jvm.MethodName) (ww ({ cls := "StrongPartsModel", name := "tie", desc := "()V" } : Jvm.MethodName) prog_7_method_12_code 3 none) ({ frames := 1, cells := 0, slots := 0, locals := 24 }) (va_Pc [.ref qm] (cPre (dC, dI) [(qm, .inr (5, [.int 0, .ref z_isArc, .ref z_reaches, .ref z_knotOf, .int 0, .ref z_aheadOf, .ref z_rows, .ref z_deep, .ref z_left, .ref z_partOf, .ref z_sideOf, .ref z_isOdd, .int 0, .ref z_row]))] [] sz)) (va_Qv (fun _ : Unit => True) (cEnd (dC, dI) [(qm, .inr (5, [.int 0, .ref z_isArc, .ref z_reaches, .ref z_knotOf, .int 0, .ref z_aheadOf, .ref z_rows, .ref z_deep, .ref z_left, .ref z_partOf, .ref z_sideOf, .ref z_isOdd, .int 0, .ref z_row]))] [] (va_A [(qm, .inr (5, [.int 0, .ref z_isArc, .ref z_reaches, .ref z_knotOf, .int 0, .ref z_aheadOf, .ref z_rows, .ref z_deep, .ref z_left, .ref z_partOf, .ref z_sideOf, .ref z_isOdd, .int 0, .ref z_row]))] sz)) (va_A [(qm, .inr (5, [.int 0, .ref z_isArc, .ref z_reaches, .ref z_knotOf, .int 0, .ref z_aheadOf, .ref z_rows, .ref z_deep, .ref z_left, .ref z_partOf, .ref z_sideOf, .ref z_isOdd, .int 0, .ref z_row]))] sz)) 0 0 (va_A [(qm, .inr (5, [.int 0, .ref z_isArc, .ref z_reaches, .ref z_knotOf, .int 0, .ref z_aheadOf, .ref z_rows, .ref z_deep, .ref z_left, .ref z_partOf, .ref z_sideOf, .ref z_isOdd, .int 0, .ref z_row]))] sz) := by
  refine Met.ofW (cc := prog_7_method_12_code) (maxL := 3) (ret := none) (by decide) rfl ?_
  intro p e s m args below meth c s₁ B hml hv
  obtain ⟨rfl, hsz, hP, hK, hD0, hN⟩ := hv
  have hx := B.exec
  have hb := B.bytes
  have hr := B.returns
  have hts := ww_hts (atoms_spec (ws := ww ({ cls := "StrongPartsModel", name := "tie", desc := "()V" } : Jvm.MethodName) prog_7_method_12_code 3 none) B.pre)
  have hown : s.vm.findClass "StrongPartsModel" = some m.cls := findClass_of_methodNamed B.named
  have hlocks := B.notSynchronized
  subst hsz
  have hD := hD0.self (sz := s.heap.size)
  generalize hAe : va_A [(qm, .inr (5, [.int 0, .ref z_isArc, .ref z_reaches, .ref z_knotOf, .int 0, .ref z_aheadOf, .ref z_rows, .ref z_deep, .ref z_left, .ref z_partOf, .ref z_sideOf, .ref z_isOdd, .int 0, .ref z_row]))] s.heap.size = A at hD ⊢
  have hA : ∀ q : Nat, s.heap.size ≤ q → A q := fun q h => by rw [← hAe]; exact Or.inr h
  have hS : va_S A s.heap s.heap [] := va_S.rf
  have hP : va_P (dC, dI) classes [(qm, .inr (5, [.int 0, .ref z_isArc, .ref z_reaches, .ref z_knotOf, .int 0, .ref z_aheadOf, .ref z_rows, .ref z_deep, .ref z_left, .ref z_partOf, .ref z_sideOf, .ref z_isOdd, .int 0, .ref z_row]))] s.heap := hP
  have hl := lv_entry ([.ref qm]) (n := 3) (Nat.le_of_ble_eq_true rfl)
  rw [lg_entry_eq]
  generalize (lg_sl ([.ref qm]) ++ List.replicate (3 - (lg_sl ([.ref qm])).length) Slot.unset).toArray = ls at hl ⊢
  have hl : lv_has ls 3 [(0, .ref qm)] := hl
  refine lv_aload_n hx hb d_p7_12_0 rfl (lv_at hl 0 rfl) ?_
  refine lv_iconst (v := 0) hx hb d_p7_12_1 (by decide) ?_
  have hPc := hP.sub (ws' := [(qm, .inr (5, [.int 0, .ref z_isArc, .ref z_reaches, .ref z_knotOf, .int 0, .ref z_aheadOf, .ref z_rows, .ref z_deep, .ref z_left, .ref z_partOf, .ref z_sideOf, .ref z_isOdd, .int 0, .ref z_row]))]) [0] rfl
  have hDc := hD.sub (ws' := [(qm, .inr (5, [.int 0, .ref z_isArc, .ref z_reaches, .ref z_knotOf, .int 0, .ref z_aheadOf, .ref z_rows, .ref z_deep, .ref z_left, .ref z_partOf, .ref z_sideOf, .ref z_isOdd, .int 0, .ref z_row]))]) [0] (by decide) rfl
  have hKc := hK.sub (tys' := []) [] rfl
  have hFc := va_free (wc := [(qm, .inr (5, [.int 0, .ref z_isArc, .ref z_reaches, .ref z_knotOf, .int 0, .ref z_aheadOf, .ref z_rows, .ref z_deep, .ref z_left, .ref z_partOf, .ref z_sideOf, .ref z_isOdd, .int 0, .ref z_row]))]) hD hS hA [0] rfl
  refine va_callv (va_runV (As := [.int 0]) (rest := []) ⟨hx, hb, hml, hown, hts⟩ (c_M_learn l dC dI qm z_isArc z_reaches z_knotOf z_aheadOf z_rows z_deep z_left z_partOf z_sideOf z_isOdd z_row s.heap.size) (cwV 1 hts (gV gd_573 tw_570 tw_572 tw_40 tw_60) rfl rfl rfl (by decide +kernel) ⟨Nat.le_of_ble_eq_true rfl, Nat.le_of_ble_eq_true rfl⟩) ⟨cPre_blind, va_recv hKc hPc (ci := 5) (q0 := 0) rfl rfl, cPre_pre hPc hKc hDc hN⟩ rfl rfl hl.1 rfl (lv_room (Nat.le_of_ble_eq_true rfl)) d_p7_12_2 ⟨Nat.le_of_ble_eq_true rfl, Nat.le_of_ble_eq_true rfl⟩) hS (fun q _ h => hFc q h) hFc (fun u t H1 locs ht hvm hw hB hz1 hk1 hS => ?_)
  obtain ⟨hP1, hK1, hD1⟩ := hB
  rw [ht] at hP1
  obtain ⟨hP, hD⟩ := va_join (wr := []) (w1 := [(qm, .inr (5, [.int 0, .ref z_isArc, .ref z_reaches, .ref z_knotOf, .int 0, .ref z_aheadOf, .ref z_rows, .ref z_deep, .ref z_left, .ref z_partOf, .ref z_sideOf, .ref z_isOdd, .int 0, .ref z_row]))]) hP hD [0] [] rfl rfl (by decide) (by decide) hk1 hFc hP1 hD1
  generalize H1 = H at hP hS ⊢
  have hP : va_P (dC, dI) classes [(qm, .inr (5, [.int 0, .ref z_isArc, .ref z_reaches, .ref z_knotOf, .int 0, .ref z_aheadOf, .ref z_rows, .ref z_deep, .ref z_left, .ref z_partOf, .ref z_sideOf, .ref z_isOdd, .int 0, .ref z_row]))] H := hP
  have hD : va_D A [(qm, .inr (5, [.int 0, .ref z_isArc, .ref z_reaches, .ref z_knotOf, .int 0, .ref z_aheadOf, .ref z_rows, .ref z_deep, .ref z_left, .ref z_partOf, .ref z_sideOf, .ref z_isOdd, .int 0, .ref z_row]))] := hD
  refine lv_aload_n hx hb d_p7_12_5 rfl (lv_at hl 0 rfl) ?_
  refine lv_iconst (v := 0) hx hb d_p7_12_6 (by decide) ?_
  refine va_put (D := (dC, dI)) (ci := 5) (v := .int 0) (ty := .int) (C := "StrongPartsModel") (T := T_5) (N := 14) hx hb hts in_5 t_5 t_5_ok n_5 hown hK hP hD hS 0 rfl rfl 4 (by decide) (hts _ tw_491) (fun _ h9 => h9) rfl (by decide +kernel) rfl rfl (Nat.le_of_ble_eq_true rfl) d_p7_12_7 (fun H locs hP hD hS => ?_)
  have hP : va_P (dC, dI) classes [(qm, .inr (5, [.int 0, .ref z_isArc, .ref z_reaches, .ref z_knotOf, .int 0, .ref z_aheadOf, .ref z_rows, .ref z_deep, .ref z_left, .ref z_partOf, .ref z_sideOf, .ref z_isOdd, .int 0, .ref z_row]))] H := hP
  have hD : va_D A [(qm, .inr (5, [.int 0, .ref z_isArc, .ref z_reaches, .ref z_knotOf, .int 0, .ref z_aheadOf, .ref z_rows, .ref z_deep, .ref z_left, .ref z_partOf, .ref z_sideOf, .ref z_isOdd, .int 0, .ref z_row]))] := hD
  refine lv_iconst (v := 0) hx hb d_p7_12_10 (by decide) ?_
  refine lv_istore_n (lv' := [(1, .int 0), (0, .ref qm)]) hx hb d_p7_12_11 rfl hl (by decide) rfl (fun ls hl => ?_)
  refine lv_iload_n hx hb d_p7_12_12 rfl (lv_at hl 0 rfl) ?_
  refine lv_aload_n hx hb d_p7_12_13 rfl (lv_at hl 1 rfl) ?_
  refine va_get (D := (dC, dI)) (ci := 5) (v := .int 0) (C := "StrongPartsModel") (T := T_5) (N := 14) hx hb hts in_5 hown hK hP 0 rfl rfl 0 (by decide) (hts _ tw_487) (fun _ h9 => h9) rfl d_p7_12_14 ?_
  refine lv_icmp_ge (tgt := 95) hx hb d_p7_12_17 (by decide) (fun _ => ?_) (fun c => absurd (by decide) c)
  have hP9 := hP.sub (ws' := [(qm, .inr (5, [.int 0, .ref z_isArc, .ref z_reaches, .ref z_knotOf, .int 0, .ref z_aheadOf, .ref z_rows, .ref z_deep, .ref z_left, .ref z_partOf, .ref z_sideOf, .ref z_isOdd, .int 0, .ref z_row]))]) [0] rfl
  have hD9 := hD.sub (ws' := [(qm, .inr (5, [.int 0, .ref z_isArc, .ref z_reaches, .ref z_knotOf, .int 0, .ref z_aheadOf, .ref z_rows, .ref z_deep, .ref z_left, .ref z_partOf, .ref z_sideOf, .ref z_isOdd, .int 0, .ref z_row]))]) [0] (by decide) rfl
  have hK9 := hK.sub (tys' := []) [] rfl
  exact W.vret hx hb hr (fun t ht hW => ⟨⟨(), rfl, trivial, cEnd_mk hP9 hK9 hD9 ht hW⟩, hS.F ht⟩) hS.2.2 d_p7_12_95

set_option maxHeartbeats 4000000 in
set_option maxRecDepth 100000 in
theorem c_M_line (l : Launch) (dC : Nat → ClassId) (dI : Nat → Nat → Nat) (qm : Nat) (z_isArc : Nat) (z_reaches : Nat) (z_knotOf : Nat) (z_aheadOf : Nat) (z_rows : Nat) (z_deep : Nat) (z_left : Nat) (z_partOf : Nat) (z_sideOf : Nat) (z_isOdd : Nat) (z_row : Nat) (sz : Nat) : Met l ({ cls := "StrongPartsModel", name := "line", desc := "()V" } : Jvm.MethodName) (ww ({ cls := "StrongPartsModel", name := "line", desc := "()V" } : Jvm.MethodName) prog_7_method_17_code 3 none) ({ frames := 2, cells := 0, slots := 0, locals := 46 }) (va_Pc [.ref qm] (cPre (dC, dI) [(qm, .inr (5, [.int 0, .ref z_isArc, .ref z_reaches, .ref z_knotOf, .int 0, .ref z_aheadOf, .ref z_rows, .ref z_deep, .ref z_left, .ref z_partOf, .ref z_sideOf, .ref z_isOdd, .int 0, .ref z_row]))] [] sz)) (va_Qv (fun _ : Unit => True) (cEnd (dC, dI) [(qm, .inr (5, [.int 0, .ref z_isArc, .ref z_reaches, .ref z_knotOf, .int 0, .ref z_aheadOf, .ref z_rows, .ref z_deep, .ref z_left, .ref z_partOf, .ref z_sideOf, .ref z_isOdd, .int 0, .ref z_row]))] [] (va_A [(qm, .inr (5, [.int 0, .ref z_isArc, .ref z_reaches, .ref z_knotOf, .int 0, .ref z_aheadOf, .ref z_rows, .ref z_deep, .ref z_left, .ref z_partOf, .ref z_sideOf, .ref z_isOdd, .int 0, .ref z_row]))] sz)) (va_A [(qm, .inr (5, [.int 0, .ref z_isArc, .ref z_reaches, .ref z_knotOf, .int 0, .ref z_aheadOf, .ref z_rows, .ref z_deep, .ref z_left, .ref z_partOf, .ref z_sideOf, .ref z_isOdd, .int 0, .ref z_row]))] sz)) 0 0 (va_A [(qm, .inr (5, [.int 0, .ref z_isArc, .ref z_reaches, .ref z_knotOf, .int 0, .ref z_aheadOf, .ref z_rows, .ref z_deep, .ref z_left, .ref z_partOf, .ref z_sideOf, .ref z_isOdd, .int 0, .ref z_row]))] sz) := by
  refine Met.ofW (cc := prog_7_method_17_code) (maxL := 3) (ret := none) (by decide) rfl ?_
  intro p e s m args below meth c s₁ B hml hv
  obtain ⟨rfl, hsz, hP, hK, hD0, hN⟩ := hv
  have hx := B.exec
  have hb := B.bytes
  have hr := B.returns
  have hts := ww_hts (atoms_spec (ws := ww ({ cls := "StrongPartsModel", name := "line", desc := "()V" } : Jvm.MethodName) prog_7_method_17_code 3 none) B.pre)
  have hown : s.vm.findClass "StrongPartsModel" = some m.cls := findClass_of_methodNamed B.named
  have hlocks := B.notSynchronized
  subst hsz
  have hD := hD0.self (sz := s.heap.size)
  generalize hAe : va_A [(qm, .inr (5, [.int 0, .ref z_isArc, .ref z_reaches, .ref z_knotOf, .int 0, .ref z_aheadOf, .ref z_rows, .ref z_deep, .ref z_left, .ref z_partOf, .ref z_sideOf, .ref z_isOdd, .int 0, .ref z_row]))] s.heap.size = A at hD ⊢
  have hA : ∀ q : Nat, s.heap.size ≤ q → A q := fun q h => by rw [← hAe]; exact Or.inr h
  have hS : va_S A s.heap s.heap [] := va_S.rf
  have hP : va_P (dC, dI) classes [(qm, .inr (5, [.int 0, .ref z_isArc, .ref z_reaches, .ref z_knotOf, .int 0, .ref z_aheadOf, .ref z_rows, .ref z_deep, .ref z_left, .ref z_partOf, .ref z_sideOf, .ref z_isOdd, .int 0, .ref z_row]))] s.heap := hP
  have hl := lv_entry ([.ref qm]) (n := 3) (Nat.le_of_ble_eq_true rfl)
  rw [lg_entry_eq]
  generalize (lg_sl ([.ref qm]) ++ List.replicate (3 - (lg_sl ([.ref qm])).length) Slot.unset).toArray = ls at hl ⊢
  have hl : lv_has ls 3 [(0, .ref qm)] := hl
  refine lv_aload_n hx hb d_p7_17_0 rfl (lv_at hl 0 rfl) ?_
  have hPc := hP.sub (ws' := [(qm, .inr (5, [.int 0, .ref z_isArc, .ref z_reaches, .ref z_knotOf, .int 0, .ref z_aheadOf, .ref z_rows, .ref z_deep, .ref z_left, .ref z_partOf, .ref z_sideOf, .ref z_isOdd, .int 0, .ref z_row]))]) [0] rfl
  have hDc := hD.sub (ws' := [(qm, .inr (5, [.int 0, .ref z_isArc, .ref z_reaches, .ref z_knotOf, .int 0, .ref z_aheadOf, .ref z_rows, .ref z_deep, .ref z_left, .ref z_partOf, .ref z_sideOf, .ref z_isOdd, .int 0, .ref z_row]))]) [0] (by decide) rfl
  have hKc := hK.sub (tys' := []) [] rfl
  have hFc := va_free (wc := [(qm, .inr (5, [.int 0, .ref z_isArc, .ref z_reaches, .ref z_knotOf, .int 0, .ref z_aheadOf, .ref z_rows, .ref z_deep, .ref z_left, .ref z_partOf, .ref z_sideOf, .ref z_isOdd, .int 0, .ref z_row]))]) hD hS hA [0] rfl
  refine va_callv (va_runV (As := []) (rest := []) ⟨hx, hb, hml, hown, hts⟩ (c_M_tie l dC dI qm z_isArc z_reaches z_knotOf z_aheadOf z_rows z_deep z_left z_partOf z_sideOf z_isOdd z_row s.heap.size) (cwV 0 hts (gV gd_569 tw_566 tw_568 tw_39 tw_60) rfl rfl rfl (by decide +kernel) ⟨Nat.le_of_ble_eq_true rfl, Nat.le_of_ble_eq_true rfl⟩) ⟨cPre_blind, va_recv hKc hPc (ci := 5) (q0 := 0) rfl rfl, cPre_pre hPc hKc hDc hN⟩ rfl rfl hl.1 rfl (lv_room (Nat.le_of_ble_eq_true rfl)) d_p7_17_1 ⟨Nat.le_of_ble_eq_true rfl, Nat.le_of_ble_eq_true rfl⟩) hS (fun q _ h => hFc q h) hFc (fun u t H1 locs ht hvm hw hB hz1 hk1 hS => ?_)
  obtain ⟨hP1, hK1, hD1⟩ := hB
  rw [ht] at hP1
  obtain ⟨hP, hD⟩ := va_join (wr := []) (w1 := [(qm, .inr (5, [.int 0, .ref z_isArc, .ref z_reaches, .ref z_knotOf, .int 0, .ref z_aheadOf, .ref z_rows, .ref z_deep, .ref z_left, .ref z_partOf, .ref z_sideOf, .ref z_isOdd, .int 0, .ref z_row]))]) hP hD [0] [] rfl rfl (by decide) (by decide) hk1 hFc hP1 hD1
  generalize H1 = H at hP hS ⊢
  have hP : va_P (dC, dI) classes [(qm, .inr (5, [.int 0, .ref z_isArc, .ref z_reaches, .ref z_knotOf, .int 0, .ref z_aheadOf, .ref z_rows, .ref z_deep, .ref z_left, .ref z_partOf, .ref z_sideOf, .ref z_isOdd, .int 0, .ref z_row]))] H := hP
  have hD : va_D A [(qm, .inr (5, [.int 0, .ref z_isArc, .ref z_reaches, .ref z_knotOf, .int 0, .ref z_aheadOf, .ref z_rows, .ref z_deep, .ref z_left, .ref z_partOf, .ref z_sideOf, .ref z_isOdd, .int 0, .ref z_row]))] := hD
  refine lv_iconst (v := 0) hx hb d_p7_17_4 (by decide) ?_
  refine lv_istore_n (lv' := [(1, .int 0), (0, .ref qm)]) hx hb d_p7_17_5 rfl hl (by decide) rfl (fun ls hl => ?_)
  refine lv_iload_n hx hb d_p7_17_6 rfl (lv_at hl 0 rfl) ?_
  refine lv_aload_n hx hb d_p7_17_7 rfl (lv_at hl 1 rfl) ?_
  refine va_get (D := (dC, dI)) (ci := 5) (v := .int 0) (C := "StrongPartsModel") (T := T_5) (N := 14) hx hb hts in_5 hown hK hP 0 rfl rfl 4 (by decide) (hts _ tw_491) (fun _ h9 => h9) rfl d_p7_17_8 ?_
  refine lv_icmp_ge (tgt := 68) hx hb d_p7_17_11 (by decide) (fun _ => ?_) (fun c => absurd (by decide) c)
  have hP9 := hP.sub (ws' := [(qm, .inr (5, [.int 0, .ref z_isArc, .ref z_reaches, .ref z_knotOf, .int 0, .ref z_aheadOf, .ref z_rows, .ref z_deep, .ref z_left, .ref z_partOf, .ref z_sideOf, .ref z_isOdd, .int 0, .ref z_row]))]) [0] rfl
  have hD9 := hD.sub (ws' := [(qm, .inr (5, [.int 0, .ref z_isArc, .ref z_reaches, .ref z_knotOf, .int 0, .ref z_aheadOf, .ref z_rows, .ref z_deep, .ref z_left, .ref z_partOf, .ref z_sideOf, .ref z_isOdd, .int 0, .ref z_row]))]) [0] (by decide) rfl
  have hK9 := hK.sub (tys' := []) [] rfl
  exact W.vret hx hb hr (fun t ht hW => ⟨⟨(), rfl, trivial, cEnd_mk hP9 hK9 hD9 ht hW⟩, hS.F ht⟩) hS.2.2 d_p7_17_68

set_option maxHeartbeats 4000000 in
set_option maxRecDepth 100000 in
theorem c_M_join (l : Launch) (dC : Nat → ClassId) (dI : Nat → Nat → Nat) (qm : Nat) (z_isArc : Nat) (z_reaches : Nat) (z_knotOf : Nat) (z_aheadOf : Nat) (z_rows : Nat) (z_deep : Nat) (z_left : Nat) (z_partOf : Nat) (z_sideOf : Nat) (z_isOdd : Nat) (z_row : Nat) (sz : Nat) : Met l ({ cls := "StrongPartsModel", name := "join", desc := "()V" } : Jvm.MethodName) (ww ({ cls := "StrongPartsModel", name := "join", desc := "()V" } : Jvm.MethodName) prog_7_method_27_code 2 none) ({ frames := 0, cells := 0, slots := 0, locals := 0 }) (va_Pc [.ref qm] (cPre (dC, dI) [(qm, .inr (5, [.int 0, .ref z_isArc, .ref z_reaches, .ref z_knotOf, .int 0, .ref z_aheadOf, .ref z_rows, .ref z_deep, .ref z_left, .ref z_partOf, .ref z_sideOf, .ref z_isOdd, .int 0, .ref z_row]))] [] sz)) (va_Qv (fun _ : Unit => True) (cEnd (dC, dI) [(qm, .inr (5, [.int 0, .ref z_isArc, .ref z_reaches, .ref z_knotOf, .int 0, .ref z_aheadOf, .ref z_rows, .ref z_deep, .ref z_left, .ref z_partOf, .ref z_sideOf, .ref z_isOdd, .int 0, .ref z_row]))] [] (va_A [(qm, .inr (5, [.int 0, .ref z_isArc, .ref z_reaches, .ref z_knotOf, .int 0, .ref z_aheadOf, .ref z_rows, .ref z_deep, .ref z_left, .ref z_partOf, .ref z_sideOf, .ref z_isOdd, .int 0, .ref z_row]))] sz)) (va_A [(qm, .inr (5, [.int 0, .ref z_isArc, .ref z_reaches, .ref z_knotOf, .int 0, .ref z_aheadOf, .ref z_rows, .ref z_deep, .ref z_left, .ref z_partOf, .ref z_sideOf, .ref z_isOdd, .int 0, .ref z_row]))] sz)) 0 0 (va_A [(qm, .inr (5, [.int 0, .ref z_isArc, .ref z_reaches, .ref z_knotOf, .int 0, .ref z_aheadOf, .ref z_rows, .ref z_deep, .ref z_left, .ref z_partOf, .ref z_sideOf, .ref z_isOdd, .int 0, .ref z_row]))] sz) := by
  refine Met.ofW (cc := prog_7_method_27_code) (maxL := 2) (ret := none) (by decide) rfl ?_
  intro p e s m args below meth c s₁ B hml hv
  obtain ⟨rfl, hsz, hP, hK, hD0, hN⟩ := hv
  have hx := B.exec
  have hb := B.bytes
  have hr := B.returns
  have hts := ww_hts (atoms_spec (ws := ww ({ cls := "StrongPartsModel", name := "join", desc := "()V" } : Jvm.MethodName) prog_7_method_27_code 2 none) B.pre)
  have hown : s.vm.findClass "StrongPartsModel" = some m.cls := findClass_of_methodNamed B.named
  have hlocks := B.notSynchronized
  subst hsz
  have hD := hD0.self (sz := s.heap.size)
  generalize hAe : va_A [(qm, .inr (5, [.int 0, .ref z_isArc, .ref z_reaches, .ref z_knotOf, .int 0, .ref z_aheadOf, .ref z_rows, .ref z_deep, .ref z_left, .ref z_partOf, .ref z_sideOf, .ref z_isOdd, .int 0, .ref z_row]))] s.heap.size = A at hD ⊢
  have hA : ∀ q : Nat, s.heap.size ≤ q → A q := fun q h => by rw [← hAe]; exact Or.inr h
  have hS : va_S A s.heap s.heap [] := va_S.rf
  have hP : va_P (dC, dI) classes [(qm, .inr (5, [.int 0, .ref z_isArc, .ref z_reaches, .ref z_knotOf, .int 0, .ref z_aheadOf, .ref z_rows, .ref z_deep, .ref z_left, .ref z_partOf, .ref z_sideOf, .ref z_isOdd, .int 0, .ref z_row]))] s.heap := hP
  have hl := lv_entry ([.ref qm]) (n := 2) (Nat.le_of_ble_eq_true rfl)
  rw [lg_entry_eq]
  generalize (lg_sl ([.ref qm]) ++ List.replicate (2 - (lg_sl ([.ref qm])).length) Slot.unset).toArray = ls at hl ⊢
  have hl : lv_has ls 2 [(0, .ref qm)] := hl
  refine lv_aload_n hx hb d_p7_27_0 rfl (lv_at hl 0 rfl) ?_
  refine lv_iconst (v := 0) hx hb d_p7_27_1 (by decide) ?_
  refine va_put (D := (dC, dI)) (ci := 5) (v := .int 0) (ty := .int) (C := "StrongPartsModel") (T := T_5) (N := 14) hx hb hts in_5 t_5 t_5_ok n_5 hown hK hP hD hS 0 rfl rfl 12 (by decide) (hts _ tw_499) (fun _ h9 => h9) rfl (by decide +kernel) rfl rfl (Nat.le_of_ble_eq_true rfl) d_p7_27_2 (fun H locs hP hD hS => ?_)
  have hP : va_P (dC, dI) classes [(qm, .inr (5, [.int 0, .ref z_isArc, .ref z_reaches, .ref z_knotOf, .int 0, .ref z_aheadOf, .ref z_rows, .ref z_deep, .ref z_left, .ref z_partOf, .ref z_sideOf, .ref z_isOdd, .int 0, .ref z_row]))] H := hP
  have hD : va_D A [(qm, .inr (5, [.int 0, .ref z_isArc, .ref z_reaches, .ref z_knotOf, .int 0, .ref z_aheadOf, .ref z_rows, .ref z_deep, .ref z_left, .ref z_partOf, .ref z_sideOf, .ref z_isOdd, .int 0, .ref z_row]))] := hD
  refine lv_iconst (v := 0) hx hb d_p7_27_5 (by decide) ?_
  refine lv_istore_n (lv' := [(1, .int 0), (0, .ref qm)]) hx hb d_p7_27_6 rfl hl (by decide) rfl (fun ls hl => ?_)
  refine lv_iload_n hx hb d_p7_27_7 rfl (lv_at hl 0 rfl) ?_
  refine lv_aload_n hx hb d_p7_27_8 rfl (lv_at hl 1 rfl) ?_
  refine va_get (D := (dC, dI)) (ci := 5) (v := .int 0) (C := "StrongPartsModel") (T := T_5) (N := 14) hx hb hts in_5 hown hK hP 0 rfl rfl 0 (by decide) (hts _ tw_487) (fun _ h9 => h9) rfl d_p7_27_9 ?_
  refine lv_icmp_ge (tgt := 28) hx hb d_p7_27_12 (by decide) (fun _ => ?_) (fun c => absurd (by decide) c)
  refine lv_iconst (v := 0) hx hb d_p7_27_28 (by decide) ?_
  refine lv_istore_n (lv' := [(1, .int 0), (0, .ref qm)]) hx hb d_p7_27_29 rfl hl (by decide) rfl (fun ls hl => ?_)
  refine lv_iload_n hx hb d_p7_27_30 rfl (lv_at hl 0 rfl) ?_
  refine lv_aload_n hx hb d_p7_27_31 rfl (lv_at hl 1 rfl) ?_
  refine va_get (D := (dC, dI)) (ci := 5) (v := .int 0) (C := "StrongPartsModel") (T := T_5) (N := 14) hx hb hts in_5 hown hK hP 0 rfl rfl 0 (by decide) (hts _ tw_487) (fun _ h9 => h9) rfl d_p7_27_32 ?_
  refine lv_icmp_ge (tgt := 99) hx hb d_p7_27_35 (by decide) (fun _ => ?_) (fun c => absurd (by decide) c)
  have hP9 := hP.sub (ws' := [(qm, .inr (5, [.int 0, .ref z_isArc, .ref z_reaches, .ref z_knotOf, .int 0, .ref z_aheadOf, .ref z_rows, .ref z_deep, .ref z_left, .ref z_partOf, .ref z_sideOf, .ref z_isOdd, .int 0, .ref z_row]))]) [0] rfl
  have hD9 := hD.sub (ws' := [(qm, .inr (5, [.int 0, .ref z_isArc, .ref z_reaches, .ref z_knotOf, .int 0, .ref z_aheadOf, .ref z_rows, .ref z_deep, .ref z_left, .ref z_partOf, .ref z_sideOf, .ref z_isOdd, .int 0, .ref z_row]))]) [0] (by decide) rfl
  have hK9 := hK.sub (tys' := []) [] rfl
  exact W.vret hx hb hr (fun t ht hW => ⟨⟨(), rfl, trivial, cEnd_mk hP9 hK9 hD9 ht hW⟩, hS.F ht⟩) hS.2.2 d_p7_27_99

set_option maxHeartbeats 4000000 in
set_option maxRecDepth 100000 in
theorem c_M_oddOne (l : Launch) (dC : Nat → ClassId) (dI : Nat → Nat → Nat) (qm : Nat) (z_isArc : Nat) (z_reaches : Nat) (z_knotOf : Nat) (z_aheadOf : Nat) (z_rows : Nat) (z_deep : Nat) (z_left : Nat) (z_partOf : Nat) (z_sideOf : Nat) (z_isOdd : Nat) (z_row : Nat) (sz : Nat) : Met l ({ cls := "StrongPartsModel", name := "oddOne", desc := "()I" } : Jvm.MethodName) (ww ({ cls := "StrongPartsModel", name := "oddOne", desc := "()I" } : Jvm.MethodName) prog_7_method_33_code 3 (some .int)) ({ frames := 1, cells := 0, slots := 0, locals := 21 }) (va_Pc [.ref qm] (cPre (dC, dI) [(qm, .inr (5, [.int 0, .ref z_isArc, .ref z_reaches, .ref z_knotOf, .int 0, .ref z_aheadOf, .ref z_rows, .ref z_deep, .ref z_left, .ref z_partOf, .ref z_sideOf, .ref z_isOdd, .int 0, .ref z_row]))] [] sz)) (va_Qi (fun (r : Int32) (_ : Unit) => r = (-1)) (cEnd (dC, dI) [(qm, .inr (5, [.int 0, .ref z_isArc, .ref z_reaches, .ref z_knotOf, .int 0, .ref z_aheadOf, .ref z_rows, .ref z_deep, .ref z_left, .ref z_partOf, .ref z_sideOf, .ref z_isOdd, .int 0, .ref z_row]))] [] (va_A [(qm, .inr (5, [.int 0, .ref z_isArc, .ref z_reaches, .ref z_knotOf, .int 0, .ref z_aheadOf, .ref z_rows, .ref z_deep, .ref z_left, .ref z_partOf, .ref z_sideOf, .ref z_isOdd, .int 0, .ref z_row]))] sz)) (va_A [(qm, .inr (5, [.int 0, .ref z_isArc, .ref z_reaches, .ref z_knotOf, .int 0, .ref z_aheadOf, .ref z_rows, .ref z_deep, .ref z_left, .ref z_partOf, .ref z_sideOf, .ref z_isOdd, .int 0, .ref z_row]))] sz)) 0 0 (va_A [(qm, .inr (5, [.int 0, .ref z_isArc, .ref z_reaches, .ref z_knotOf, .int 0, .ref z_aheadOf, .ref z_rows, .ref z_deep, .ref z_left, .ref z_partOf, .ref z_sideOf, .ref z_isOdd, .int 0, .ref z_row]))] sz) := by
  refine Met.ofW (cc := prog_7_method_33_code) (maxL := 3) (ret := (some .int)) (by decide) rfl ?_
  intro p e s m args below meth c s₁ B hml hv
  obtain ⟨rfl, hsz, hP, hK, hD0, hN⟩ := hv
  have hx := B.exec
  have hb := B.bytes
  have hr := B.returns
  have hts := ww_hts (atoms_spec (ws := ww ({ cls := "StrongPartsModel", name := "oddOne", desc := "()I" } : Jvm.MethodName) prog_7_method_33_code 3 (some .int)) B.pre)
  have hown : s.vm.findClass "StrongPartsModel" = some m.cls := findClass_of_methodNamed B.named
  have hlocks := B.notSynchronized
  subst hsz
  have hD := hD0.self (sz := s.heap.size)
  generalize hAe : va_A [(qm, .inr (5, [.int 0, .ref z_isArc, .ref z_reaches, .ref z_knotOf, .int 0, .ref z_aheadOf, .ref z_rows, .ref z_deep, .ref z_left, .ref z_partOf, .ref z_sideOf, .ref z_isOdd, .int 0, .ref z_row]))] s.heap.size = A at hD ⊢
  have hA : ∀ q : Nat, s.heap.size ≤ q → A q := fun q h => by rw [← hAe]; exact Or.inr h
  have hS : va_S A s.heap s.heap [] := va_S.rf
  have hP : va_P (dC, dI) classes [(qm, .inr (5, [.int 0, .ref z_isArc, .ref z_reaches, .ref z_knotOf, .int 0, .ref z_aheadOf, .ref z_rows, .ref z_deep, .ref z_left, .ref z_partOf, .ref z_sideOf, .ref z_isOdd, .int 0, .ref z_row]))] s.heap := hP
  have hl := lv_entry ([.ref qm]) (n := 3) (Nat.le_of_ble_eq_true rfl)
  rw [lg_entry_eq]
  generalize (lg_sl ([.ref qm]) ++ List.replicate (3 - (lg_sl ([.ref qm])).length) Slot.unset).toArray = ls at hl ⊢
  have hl : lv_has ls 3 [(0, .ref qm)] := hl
  refine lv_aload_n hx hb d_p7_33_0 rfl (lv_at hl 0 rfl) ?_
  have hPc := hP.sub (ws' := [(qm, .inr (5, [.int 0, .ref z_isArc, .ref z_reaches, .ref z_knotOf, .int 0, .ref z_aheadOf, .ref z_rows, .ref z_deep, .ref z_left, .ref z_partOf, .ref z_sideOf, .ref z_isOdd, .int 0, .ref z_row]))]) [0] rfl
  have hDc := hD.sub (ws' := [(qm, .inr (5, [.int 0, .ref z_isArc, .ref z_reaches, .ref z_knotOf, .int 0, .ref z_aheadOf, .ref z_rows, .ref z_deep, .ref z_left, .ref z_partOf, .ref z_sideOf, .ref z_isOdd, .int 0, .ref z_row]))]) [0] (by decide) rfl
  have hKc := hK.sub (tys' := []) [] rfl
  have hFc := va_free (wc := [(qm, .inr (5, [.int 0, .ref z_isArc, .ref z_reaches, .ref z_knotOf, .int 0, .ref z_aheadOf, .ref z_rows, .ref z_deep, .ref z_left, .ref z_partOf, .ref z_sideOf, .ref z_isOdd, .int 0, .ref z_row]))]) hD hS hA [0] rfl
  refine va_callv (va_runV (As := []) (rest := []) ⟨hx, hb, hml, hown, hts⟩ (c_M_join l dC dI qm z_isArc z_reaches z_knotOf z_aheadOf z_rows z_deep z_left z_partOf z_sideOf z_isOdd z_row s.heap.size) (cwV 0 hts (gV gd_633 tw_630 tw_632 tw_45 tw_60) rfl rfl rfl (by decide +kernel) ⟨Nat.le_of_ble_eq_true rfl, Nat.le_of_ble_eq_true rfl⟩) ⟨cPre_blind, va_recv hKc hPc (ci := 5) (q0 := 0) rfl rfl, cPre_pre hPc hKc hDc hN⟩ rfl rfl hl.1 rfl (lv_room (Nat.le_of_ble_eq_true rfl)) d_p7_33_1 ⟨Nat.le_of_ble_eq_true rfl, Nat.le_of_ble_eq_true rfl⟩) hS (fun q _ h => hFc q h) hFc (fun u t H1 locs ht hvm hw hB hz1 hk1 hS => ?_)
  obtain ⟨hP1, hK1, hD1⟩ := hB
  rw [ht] at hP1
  obtain ⟨hP, hD⟩ := va_join (wr := []) (w1 := [(qm, .inr (5, [.int 0, .ref z_isArc, .ref z_reaches, .ref z_knotOf, .int 0, .ref z_aheadOf, .ref z_rows, .ref z_deep, .ref z_left, .ref z_partOf, .ref z_sideOf, .ref z_isOdd, .int 0, .ref z_row]))]) hP hD [0] [] rfl rfl (by decide) (by decide) hk1 hFc hP1 hD1
  generalize H1 = H at hP hS ⊢
  have hP : va_P (dC, dI) classes [(qm, .inr (5, [.int 0, .ref z_isArc, .ref z_reaches, .ref z_knotOf, .int 0, .ref z_aheadOf, .ref z_rows, .ref z_deep, .ref z_left, .ref z_partOf, .ref z_sideOf, .ref z_isOdd, .int 0, .ref z_row]))] H := hP
  have hD : va_D A [(qm, .inr (5, [.int 0, .ref z_isArc, .ref z_reaches, .ref z_knotOf, .int 0, .ref z_aheadOf, .ref z_rows, .ref z_deep, .ref z_left, .ref z_partOf, .ref z_sideOf, .ref z_isOdd, .int 0, .ref z_row]))] := hD
  refine lv_iconst (v := 0) hx hb d_p7_33_4 (by decide) ?_
  refine lv_istore_n (lv' := [(1, .int 0), (0, .ref qm)]) hx hb d_p7_33_5 rfl hl (by decide) rfl (fun ls hl => ?_)
  refine lv_iconst (v := 0) hx hb d_p7_33_6 (by decide) ?_
  refine lv_istore_n (lv' := [(2, .int 0), (1, .int 0), (0, .ref qm)]) hx hb d_p7_33_7 rfl hl (by decide) rfl (fun ls hl => ?_)
  refine lv_iload_n hx hb d_p7_33_8 rfl (lv_at hl 0 rfl) ?_
  refine lv_aload_n hx hb d_p7_33_9 rfl (lv_at hl 2 rfl) ?_
  refine va_get (D := (dC, dI)) (ci := 5) (v := .int 0) (C := "StrongPartsModel") (T := T_5) (N := 14) hx hb hts in_5 hown hK hP 0 rfl rfl 12 (by decide) (hts _ tw_499) (fun _ h9 => h9) rfl d_p7_33_10 ?_
  refine lv_icmp_ge (tgt := 41) hx hb d_p7_33_13 (by decide) (fun _ => ?_) (fun c => absurd (by decide) c)
  refine lv_iconst (v := 3) hx hb d_p7_33_41 (by decide) ?_
  refine lv_istore_n (lv' := [(2, .int 3), (1, .int 0), (0, .ref qm)]) hx hb d_p7_33_42 rfl hl (by decide) rfl (fun ls hl => ?_)
  refine lv_iload_n hx hb d_p7_33_43 rfl (lv_at hl 1 rfl) ?_
  refine lv_if_eq (tgt := 61) hx hb d_p7_33_44 (by decide) (fun _ => ?_) (fun c => absurd (by decide) c)
  refine lv_iload_n hx hb d_p7_33_61 rfl (lv_at hl 1 rfl) ?_
  refine lv_if_eq (tgt := 69) hx hb d_p7_33_62 (by decide) (fun _ => ?_) (fun c => absurd (by decide) c)
  refine lv_iconst (v := (-1)) hx hb d_p7_33_69 (by decide) ?_
  have hP9 := hP.sub (ws' := [(qm, .inr (5, [.int 0, .ref z_isArc, .ref z_reaches, .ref z_knotOf, .int 0, .ref z_aheadOf, .ref z_rows, .ref z_deep, .ref z_left, .ref z_partOf, .ref z_sideOf, .ref z_isOdd, .int 0, .ref z_row]))]) [0] rfl
  have hD9 := hD.sub (ws' := [(qm, .inr (5, [.int 0, .ref z_isArc, .ref z_reaches, .ref z_knotOf, .int 0, .ref z_aheadOf, .ref z_rows, .ref z_deep, .ref z_left, .ref z_partOf, .ref z_sideOf, .ref z_isOdd, .int 0, .ref z_row]))]) [0] (by decide) rfl
  have hK9 := hK.sub (tys' := []) [] rfl
  exact W.iret (v := (-1)) hx hb hr (fun t ht hW => ⟨⟨(-1), (), rfl, rfl, cEnd_mk hP9 hK9 hD9 ht hW⟩, hS.F ht⟩) hS.2.2 d_p7_33_70

set_option maxHeartbeats 4000000 in
set_option maxRecDepth 100000 in
theorem c_M_clear (l : Launch) (dC : Nat → ClassId) (dI : Nat → Nat → Nat) (qm : Nat) (z_isArc : Nat) (z_reaches : Nat) (z_knotOf : Nat) (z_aheadOf : Nat) (z_rows : Nat) (z_deep : Nat) (z_left : Nat) (z_partOf : Nat) (z_sideOf : Nat) (z_isOdd : Nat) (z_row : Nat) (sz : Nat) : Met l ({ cls := "StrongPartsModel", name := "clear", desc := "()I" } : Jvm.MethodName) (ww ({ cls := "StrongPartsModel", name := "clear", desc := "()I" } : Jvm.MethodName) prog_7_method_2_code 2 (some .int)) ({ frames := 0, cells := 0, slots := 0, locals := 0 }) (va_Pc [.ref qm] (cPre (dC, dI) [(qm, .inr (5, [.int 0, .ref z_isArc, .ref z_reaches, .ref z_knotOf, .int 0, .ref z_aheadOf, .ref z_rows, .ref z_deep, .ref z_left, .ref z_partOf, .ref z_sideOf, .ref z_isOdd, .int 0, .ref z_row]))] [] sz)) (va_Qi (fun (r : Int32) (_ : Unit) => r = 0) (cEnd (dC, dI) [] [] (va_A [(qm, .inr (5, [.int 0, .ref z_isArc, .ref z_reaches, .ref z_knotOf, .int 0, .ref z_aheadOf, .ref z_rows, .ref z_deep, .ref z_left, .ref z_partOf, .ref z_sideOf, .ref z_isOdd, .int 0, .ref z_row]))] sz)) (va_A [(qm, .inr (5, [.int 0, .ref z_isArc, .ref z_reaches, .ref z_knotOf, .int 0, .ref z_aheadOf, .ref z_rows, .ref z_deep, .ref z_left, .ref z_partOf, .ref z_sideOf, .ref z_isOdd, .int 0, .ref z_row]))] sz)) 0 0 (va_A [(qm, .inr (5, [.int 0, .ref z_isArc, .ref z_reaches, .ref z_knotOf, .int 0, .ref z_aheadOf, .ref z_rows, .ref z_deep, .ref z_left, .ref z_partOf, .ref z_sideOf, .ref z_isOdd, .int 0, .ref z_row]))] sz) := by
  refine Met.ofW (cc := prog_7_method_2_code) (maxL := 2) (ret := (some .int)) (by decide) rfl ?_
  intro p e s m args below meth c s₁ B hml hv
  obtain ⟨rfl, hsz, hP, hK, hD0, hN⟩ := hv
  have hx := B.exec
  have hb := B.bytes
  have hr := B.returns
  have hts := ww_hts (atoms_spec (ws := ww ({ cls := "StrongPartsModel", name := "clear", desc := "()I" } : Jvm.MethodName) prog_7_method_2_code 2 (some .int)) B.pre)
  have hown : s.vm.findClass "StrongPartsModel" = some m.cls := findClass_of_methodNamed B.named
  have hlocks := B.notSynchronized
  subst hsz
  have hD := hD0.self (sz := s.heap.size)
  generalize hAe : va_A [(qm, .inr (5, [.int 0, .ref z_isArc, .ref z_reaches, .ref z_knotOf, .int 0, .ref z_aheadOf, .ref z_rows, .ref z_deep, .ref z_left, .ref z_partOf, .ref z_sideOf, .ref z_isOdd, .int 0, .ref z_row]))] s.heap.size = A at hD ⊢
  have hA : ∀ q : Nat, s.heap.size ≤ q → A q := fun q h => by rw [← hAe]; exact Or.inr h
  have hS : va_S A s.heap s.heap [] := va_S.rf
  have hP : va_P (dC, dI) classes [(qm, .inr (5, [.int 0, .ref z_isArc, .ref z_reaches, .ref z_knotOf, .int 0, .ref z_aheadOf, .ref z_rows, .ref z_deep, .ref z_left, .ref z_partOf, .ref z_sideOf, .ref z_isOdd, .int 0, .ref z_row]))] s.heap := hP
  have hl := lv_entry ([.ref qm]) (n := 2) (Nat.le_of_ble_eq_true rfl)
  rw [lg_entry_eq]
  generalize (lg_sl ([.ref qm]) ++ List.replicate (2 - (lg_sl ([.ref qm])).length) Slot.unset).toArray = ls at hl ⊢
  have hl : lv_has ls 2 [(0, .ref qm)] := hl
  refine lv_aload_n hx hb d_p7_2_0 rfl (lv_at hl 0 rfl) ?_
  refine va_get (D := (dC, dI)) (ci := 5) (v := .int 0) (C := "StrongPartsModel") (T := T_5) (N := 14) hx hb hts in_5 hown hK hP 0 rfl rfl 0 (by decide) (hts _ tw_487) (fun _ h9 => h9) rfl d_p7_2_1 ?_
  refine lv_istore_n (lv' := [(1, .int 0), (0, .ref qm)]) hx hb d_p7_2_4 rfl hl (by decide) rfl (fun ls hl => ?_)
  refine lv_aload_n hx hb d_p7_2_5 rfl (lv_at hl 1 rfl) ?_
  refine lv_iconst (v := 0) hx hb d_p7_2_6 (by decide) ?_
  refine va_put (D := (dC, dI)) (ci := 5) (v := .int 0) (ty := .int) (C := "StrongPartsModel") (T := T_5) (N := 14) hx hb hts in_5 t_5 t_5_ok n_5 hown hK hP hD hS 0 rfl rfl 0 (by decide) (hts _ tw_487) (fun _ h9 => h9) rfl (by decide +kernel) rfl rfl (Nat.le_of_ble_eq_true rfl) d_p7_2_7 (fun H locs hP hD hS => ?_)
  have hP : va_P (dC, dI) classes [(qm, .inr (5, [.int 0, .ref z_isArc, .ref z_reaches, .ref z_knotOf, .int 0, .ref z_aheadOf, .ref z_rows, .ref z_deep, .ref z_left, .ref z_partOf, .ref z_sideOf, .ref z_isOdd, .int 0, .ref z_row]))] H := hP
  have hD : va_D A [(qm, .inr (5, [.int 0, .ref z_isArc, .ref z_reaches, .ref z_knotOf, .int 0, .ref z_aheadOf, .ref z_rows, .ref z_deep, .ref z_left, .ref z_partOf, .ref z_sideOf, .ref z_isOdd, .int 0, .ref z_row]))] := hD
  refine lv_iload_n hx hb d_p7_2_10 rfl (lv_at hl 0 rfl) ?_
  have hP9 := hP.sub (ws' := []) [] rfl
  have hD9 := hD.sub (ws' := []) [] (by decide) rfl
  have hK9 := hK.sub (tys' := []) [] rfl
  exact W.iret (v := 0) hx hb hr (fun t ht hW => ⟨⟨0, (), rfl, rfl, cEnd_mk hP9 hK9 hD9 ht hW⟩, hS.F ht⟩) hS.2.2 d_p7_2_11

set_option maxHeartbeats 4000000 in
set_option maxRecDepth 100000 in
theorem c_M_arc (l : Launch) (dC : Nat → ClassId) (dI : Nat → Nat → Nat) (qm : Nat) (z_isArc : Nat) (z_reaches : Nat) (z_knotOf : Nat) (z_aheadOf : Nat) (z_rows : Nat) (z_deep : Nat) (z_left : Nat) (z_partOf : Nat) (z_sideOf : Nat) (z_isOdd : Nat) (z_row : Nat) (p0 : Int32) (p1 : Int32) (sz : Nat) : Met l ({ cls := "StrongPartsModel", name := "arc", desc := "(II)I" } : Jvm.MethodName) (ww ({ cls := "StrongPartsModel", name := "arc", desc := "(II)I" } : Jvm.MethodName) prog_7_method_8_code 3 (some .int)) ({ frames := 2, cells := 0, slots := 0, locals := 43 }) (va_Pc [.ref qm, .int p0, .int p1] (cPre (dC, dI) [(qm, .inr (5, [.int 0, .ref z_isArc, .ref z_reaches, .ref z_knotOf, .int 0, .ref z_aheadOf, .ref z_rows, .ref z_deep, .ref z_left, .ref z_partOf, .ref z_sideOf, .ref z_isOdd, .int 0, .ref z_row]))] [] sz)) (va_Qi (fun (r : Int32) (_ : Unit) => r = (-2)) (cEnd (dC, dI) [] [] (va_A [(qm, .inr (5, [.int 0, .ref z_isArc, .ref z_reaches, .ref z_knotOf, .int 0, .ref z_aheadOf, .ref z_rows, .ref z_deep, .ref z_left, .ref z_partOf, .ref z_sideOf, .ref z_isOdd, .int 0, .ref z_row]))] sz)) (va_A [(qm, .inr (5, [.int 0, .ref z_isArc, .ref z_reaches, .ref z_knotOf, .int 0, .ref z_aheadOf, .ref z_rows, .ref z_deep, .ref z_left, .ref z_partOf, .ref z_sideOf, .ref z_isOdd, .int 0, .ref z_row]))] sz)) 0 0 (va_A [(qm, .inr (5, [.int 0, .ref z_isArc, .ref z_reaches, .ref z_knotOf, .int 0, .ref z_aheadOf, .ref z_rows, .ref z_deep, .ref z_left, .ref z_partOf, .ref z_sideOf, .ref z_isOdd, .int 0, .ref z_row]))] sz) := by
  refine Met.ofW (cc := prog_7_method_8_code) (maxL := 3) (ret := (some .int)) (by decide) rfl ?_
  intro p e s m args below meth c s₁ B hml hv
  obtain ⟨rfl, hsz, hP, hK, hD0, hN⟩ := hv
  have hx := B.exec
  have hb := B.bytes
  have hr := B.returns
  have hts := ww_hts (atoms_spec (ws := ww ({ cls := "StrongPartsModel", name := "arc", desc := "(II)I" } : Jvm.MethodName) prog_7_method_8_code 3 (some .int)) B.pre)
  have hown : s.vm.findClass "StrongPartsModel" = some m.cls := findClass_of_methodNamed B.named
  have hlocks := B.notSynchronized
  subst hsz
  have hD := hD0.self (sz := s.heap.size)
  generalize hAe : va_A [(qm, .inr (5, [.int 0, .ref z_isArc, .ref z_reaches, .ref z_knotOf, .int 0, .ref z_aheadOf, .ref z_rows, .ref z_deep, .ref z_left, .ref z_partOf, .ref z_sideOf, .ref z_isOdd, .int 0, .ref z_row]))] s.heap.size = A at hD ⊢
  have hA : ∀ q : Nat, s.heap.size ≤ q → A q := fun q h => by rw [← hAe]; exact Or.inr h
  have hS : va_S A s.heap s.heap [] := va_S.rf
  have hP : va_P (dC, dI) classes [(qm, .inr (5, [.int 0, .ref z_isArc, .ref z_reaches, .ref z_knotOf, .int 0, .ref z_aheadOf, .ref z_rows, .ref z_deep, .ref z_left, .ref z_partOf, .ref z_sideOf, .ref z_isOdd, .int 0, .ref z_row]))] s.heap := hP
  have hl := lv_entry ([.ref qm, .int p0, .int p1]) (n := 3) (Nat.le_of_ble_eq_true rfl)
  rw [lg_entry_eq]
  generalize (lg_sl ([.ref qm, .int p0, .int p1]) ++ List.replicate (3 - (lg_sl ([.ref qm, .int p0, .int p1])).length) Slot.unset).toArray = ls at hl ⊢
  have hl : lv_has ls 3 [(0, .ref qm), (1, .int p0), (2, .int p1)] := hl
  refine lv_aload_n hx hb d_p7_8_0 rfl (lv_at hl 0 rfl) ?_
  refine lv_iload_n hx hb d_p7_8_1 rfl (lv_at hl 1 rfl) ?_
  have hPc := hP.sub (ws' := [(qm, .inr (5, [.int 0, .ref z_isArc, .ref z_reaches, .ref z_knotOf, .int 0, .ref z_aheadOf, .ref z_rows, .ref z_deep, .ref z_left, .ref z_partOf, .ref z_sideOf, .ref z_isOdd, .int 0, .ref z_row]))]) [0] rfl
  have hDc := hD.sub (ws' := [(qm, .inr (5, [.int 0, .ref z_isArc, .ref z_reaches, .ref z_knotOf, .int 0, .ref z_aheadOf, .ref z_rows, .ref z_deep, .ref z_left, .ref z_partOf, .ref z_sideOf, .ref z_isOdd, .int 0, .ref z_row]))]) [0] (by decide) rfl
  have hKc := hK.sub (tys' := []) [] rfl
  have hFc := va_free (wc := [(qm, .inr (5, [.int 0, .ref z_isArc, .ref z_reaches, .ref z_knotOf, .int 0, .ref z_aheadOf, .ref z_rows, .ref z_deep, .ref z_left, .ref z_partOf, .ref z_sideOf, .ref z_isOdd, .int 0, .ref z_row]))]) hD hS hA [0] rfl
  refine va_calli (va_runV (As := [.int p0]) (rest := []) ⟨hx, hb, hml, hown, hts⟩ (c_M_isNode l dC dI qm z_isArc z_reaches z_knotOf z_aheadOf z_rows z_deep z_left z_partOf z_sideOf z_isOdd z_row p0 s.heap.size) (cwV 1 hts (gV gd_546 tw_543 tw_545 tw_36 tw_60) rfl rfl rfl (by decide +kernel) ⟨Nat.le_of_ble_eq_true rfl, Nat.le_of_ble_eq_true rfl⟩) ⟨cPre_blind, va_recv hKc hPc (ci := 5) (q0 := 0) rfl rfl, cPre_pre hPc hKc hDc hN⟩ rfl rfl hl.1 rfl (lv_room (Nat.le_of_ble_eq_true rfl)) d_p7_8_2 ⟨Nat.le_of_ble_eq_true rfl, Nat.le_of_ble_eq_true rfl⟩) hS (fun q _ h => hFc q h) hFc (fun r_1 u t H1 locs ht hvm hw hB hz1 hk1 hS => ?_)
  obtain ⟨hP1, hK1, hD1⟩ := hB
  rw [ht] at hP1
  obtain ⟨hP, hD⟩ := va_join (wr := []) (w1 := [(qm, .inr (5, [.int 0, .ref z_isArc, .ref z_reaches, .ref z_knotOf, .int 0, .ref z_aheadOf, .ref z_rows, .ref z_deep, .ref z_left, .ref z_partOf, .ref z_sideOf, .ref z_isOdd, .int 0, .ref z_row]))]) hP hD [0] [] rfl rfl (by decide) (by decide) hk1 hFc hP1 hD1
  generalize H1 = H at hP hS ⊢
  have hP : va_P (dC, dI) classes [(qm, .inr (5, [.int 0, .ref z_isArc, .ref z_reaches, .ref z_knotOf, .int 0, .ref z_aheadOf, .ref z_rows, .ref z_deep, .ref z_left, .ref z_partOf, .ref z_sideOf, .ref z_isOdd, .int 0, .ref z_row]))] H := hP
  have hD : va_D A [(qm, .inr (5, [.int 0, .ref z_isArc, .ref z_reaches, .ref z_knotOf, .int 0, .ref z_aheadOf, .ref z_rows, .ref z_deep, .ref z_left, .ref z_partOf, .ref z_sideOf, .ref z_isOdd, .int 0, .ref z_row]))] := hD
  obtain rfl : r_1 = (0 : Int32) := hw
  refine lv_if_eq (tgt := 21) hx hb d_p7_8_5 (by decide) (fun _ => ?_) (fun c => absurd (by decide) c)
  refine lv_bipush (v := (-2)) hx hb d_p7_8_21 (by decide) ?_
  have hP9 := hP.sub (ws' := []) [] rfl
  have hD9 := hD.sub (ws' := []) [] (by decide) rfl
  have hK9 := hK.sub (tys' := []) [] rfl
  exact W.iret (v := (-2)) hx hb hr (fun t ht hW => ⟨⟨(-2), (), rfl, rfl, cEnd_mk hP9 hK9 hD9 ht hW⟩, hS.F ht⟩) hS.2.2 d_p7_8_23

set_option maxHeartbeats 4000000 in
set_option maxRecDepth 100000 in
theorem c_M_cut (l : Launch) (dC : Nat → ClassId) (dI : Nat → Nat → Nat) (qm : Nat) (z_isArc : Nat) (z_reaches : Nat) (z_knotOf : Nat) (z_aheadOf : Nat) (z_rows : Nat) (z_deep : Nat) (z_left : Nat) (z_partOf : Nat) (z_sideOf : Nat) (z_isOdd : Nat) (z_row : Nat) (p0 : Int32) (p1 : Int32) (sz : Nat) : Met l ({ cls := "StrongPartsModel", name := "cut", desc := "(II)I" } : Jvm.MethodName) (ww ({ cls := "StrongPartsModel", name := "cut", desc := "(II)I" } : Jvm.MethodName) prog_7_method_9_code 3 (some .int)) ({ frames := 2, cells := 0, slots := 0, locals := 43 }) (va_Pc [.ref qm, .int p0, .int p1] (cPre (dC, dI) [(qm, .inr (5, [.int 0, .ref z_isArc, .ref z_reaches, .ref z_knotOf, .int 0, .ref z_aheadOf, .ref z_rows, .ref z_deep, .ref z_left, .ref z_partOf, .ref z_sideOf, .ref z_isOdd, .int 0, .ref z_row]))] [] sz)) (va_Qi (fun (r : Int32) (_ : Unit) => r = (-2)) (cEnd (dC, dI) [] [] (va_A [(qm, .inr (5, [.int 0, .ref z_isArc, .ref z_reaches, .ref z_knotOf, .int 0, .ref z_aheadOf, .ref z_rows, .ref z_deep, .ref z_left, .ref z_partOf, .ref z_sideOf, .ref z_isOdd, .int 0, .ref z_row]))] sz)) (va_A [(qm, .inr (5, [.int 0, .ref z_isArc, .ref z_reaches, .ref z_knotOf, .int 0, .ref z_aheadOf, .ref z_rows, .ref z_deep, .ref z_left, .ref z_partOf, .ref z_sideOf, .ref z_isOdd, .int 0, .ref z_row]))] sz)) 0 0 (va_A [(qm, .inr (5, [.int 0, .ref z_isArc, .ref z_reaches, .ref z_knotOf, .int 0, .ref z_aheadOf, .ref z_rows, .ref z_deep, .ref z_left, .ref z_partOf, .ref z_sideOf, .ref z_isOdd, .int 0, .ref z_row]))] sz) := by
  refine Met.ofW (cc := prog_7_method_9_code) (maxL := 3) (ret := (some .int)) (by decide) rfl ?_
  intro p e s m args below meth c s₁ B hml hv
  obtain ⟨rfl, hsz, hP, hK, hD0, hN⟩ := hv
  have hx := B.exec
  have hb := B.bytes
  have hr := B.returns
  have hts := ww_hts (atoms_spec (ws := ww ({ cls := "StrongPartsModel", name := "cut", desc := "(II)I" } : Jvm.MethodName) prog_7_method_9_code 3 (some .int)) B.pre)
  have hown : s.vm.findClass "StrongPartsModel" = some m.cls := findClass_of_methodNamed B.named
  have hlocks := B.notSynchronized
  subst hsz
  have hD := hD0.self (sz := s.heap.size)
  generalize hAe : va_A [(qm, .inr (5, [.int 0, .ref z_isArc, .ref z_reaches, .ref z_knotOf, .int 0, .ref z_aheadOf, .ref z_rows, .ref z_deep, .ref z_left, .ref z_partOf, .ref z_sideOf, .ref z_isOdd, .int 0, .ref z_row]))] s.heap.size = A at hD ⊢
  have hA : ∀ q : Nat, s.heap.size ≤ q → A q := fun q h => by rw [← hAe]; exact Or.inr h
  have hS : va_S A s.heap s.heap [] := va_S.rf
  have hP : va_P (dC, dI) classes [(qm, .inr (5, [.int 0, .ref z_isArc, .ref z_reaches, .ref z_knotOf, .int 0, .ref z_aheadOf, .ref z_rows, .ref z_deep, .ref z_left, .ref z_partOf, .ref z_sideOf, .ref z_isOdd, .int 0, .ref z_row]))] s.heap := hP
  have hl := lv_entry ([.ref qm, .int p0, .int p1]) (n := 3) (Nat.le_of_ble_eq_true rfl)
  rw [lg_entry_eq]
  generalize (lg_sl ([.ref qm, .int p0, .int p1]) ++ List.replicate (3 - (lg_sl ([.ref qm, .int p0, .int p1])).length) Slot.unset).toArray = ls at hl ⊢
  have hl : lv_has ls 3 [(0, .ref qm), (1, .int p0), (2, .int p1)] := hl
  refine lv_aload_n hx hb d_p7_9_0 rfl (lv_at hl 0 rfl) ?_
  refine lv_iload_n hx hb d_p7_9_1 rfl (lv_at hl 1 rfl) ?_
  have hPc := hP.sub (ws' := [(qm, .inr (5, [.int 0, .ref z_isArc, .ref z_reaches, .ref z_knotOf, .int 0, .ref z_aheadOf, .ref z_rows, .ref z_deep, .ref z_left, .ref z_partOf, .ref z_sideOf, .ref z_isOdd, .int 0, .ref z_row]))]) [0] rfl
  have hDc := hD.sub (ws' := [(qm, .inr (5, [.int 0, .ref z_isArc, .ref z_reaches, .ref z_knotOf, .int 0, .ref z_aheadOf, .ref z_rows, .ref z_deep, .ref z_left, .ref z_partOf, .ref z_sideOf, .ref z_isOdd, .int 0, .ref z_row]))]) [0] (by decide) rfl
  have hKc := hK.sub (tys' := []) [] rfl
  have hFc := va_free (wc := [(qm, .inr (5, [.int 0, .ref z_isArc, .ref z_reaches, .ref z_knotOf, .int 0, .ref z_aheadOf, .ref z_rows, .ref z_deep, .ref z_left, .ref z_partOf, .ref z_sideOf, .ref z_isOdd, .int 0, .ref z_row]))]) hD hS hA [0] rfl
  refine va_calli (va_runV (As := [.int p0]) (rest := []) ⟨hx, hb, hml, hown, hts⟩ (c_M_isNode l dC dI qm z_isArc z_reaches z_knotOf z_aheadOf z_rows z_deep z_left z_partOf z_sideOf z_isOdd z_row p0 s.heap.size) (cwV 1 hts (gV gd_546 tw_543 tw_545 tw_36 tw_60) rfl rfl rfl (by decide +kernel) ⟨Nat.le_of_ble_eq_true rfl, Nat.le_of_ble_eq_true rfl⟩) ⟨cPre_blind, va_recv hKc hPc (ci := 5) (q0 := 0) rfl rfl, cPre_pre hPc hKc hDc hN⟩ rfl rfl hl.1 rfl (lv_room (Nat.le_of_ble_eq_true rfl)) d_p7_9_2 ⟨Nat.le_of_ble_eq_true rfl, Nat.le_of_ble_eq_true rfl⟩) hS (fun q _ h => hFc q h) hFc (fun r_1 u t H1 locs ht hvm hw hB hz1 hk1 hS => ?_)
  obtain ⟨hP1, hK1, hD1⟩ := hB
  rw [ht] at hP1
  obtain ⟨hP, hD⟩ := va_join (wr := []) (w1 := [(qm, .inr (5, [.int 0, .ref z_isArc, .ref z_reaches, .ref z_knotOf, .int 0, .ref z_aheadOf, .ref z_rows, .ref z_deep, .ref z_left, .ref z_partOf, .ref z_sideOf, .ref z_isOdd, .int 0, .ref z_row]))]) hP hD [0] [] rfl rfl (by decide) (by decide) hk1 hFc hP1 hD1
  generalize H1 = H at hP hS ⊢
  have hP : va_P (dC, dI) classes [(qm, .inr (5, [.int 0, .ref z_isArc, .ref z_reaches, .ref z_knotOf, .int 0, .ref z_aheadOf, .ref z_rows, .ref z_deep, .ref z_left, .ref z_partOf, .ref z_sideOf, .ref z_isOdd, .int 0, .ref z_row]))] H := hP
  have hD : va_D A [(qm, .inr (5, [.int 0, .ref z_isArc, .ref z_reaches, .ref z_knotOf, .int 0, .ref z_aheadOf, .ref z_rows, .ref z_deep, .ref z_left, .ref z_partOf, .ref z_sideOf, .ref z_isOdd, .int 0, .ref z_row]))] := hD
  obtain rfl : r_1 = (0 : Int32) := hw
  refine lv_if_eq (tgt := 21) hx hb d_p7_9_5 (by decide) (fun _ => ?_) (fun c => absurd (by decide) c)
  refine lv_bipush (v := (-2)) hx hb d_p7_9_21 (by decide) ?_
  have hP9 := hP.sub (ws' := []) [] rfl
  have hD9 := hD.sub (ws' := []) [] (by decide) rfl
  have hK9 := hK.sub (tys' := []) [] rfl
  exact W.iret (v := (-2)) hx hb hr (fun t ht hW => ⟨⟨(-2), (), rfl, rfl, cEnd_mk hP9 hK9 hD9 ht hW⟩, hS.F ht⟩) hS.2.2 d_p7_9_23

set_option maxHeartbeats 4000000 in
set_option maxRecDepth 100000 in
theorem c_M_steps (l : Launch) (dC : Nat → ClassId) (dI : Nat → Nat → Nat) (qm : Nat) (z_isArc : Nat) (z_reaches : Nat) (z_knotOf : Nat) (z_aheadOf : Nat) (z_rows : Nat) (z_deep : Nat) (z_left : Nat) (z_partOf : Nat) (z_sideOf : Nat) (z_isOdd : Nat) (z_row : Nat) (p0 : Int32) (p1 : Int32) (sz : Nat) : Met l ({ cls := "StrongPartsModel", name := "steps", desc := "(II)I" } : Jvm.MethodName) (ww ({ cls := "StrongPartsModel", name := "steps", desc := "(II)I" } : Jvm.MethodName) prog_7_method_22_code 3 (some .int)) ({ frames := 2, cells := 0, slots := 0, locals := 43 }) (va_Pc [.ref qm, .int p0, .int p1] (cPre (dC, dI) [(qm, .inr (5, [.int 0, .ref z_isArc, .ref z_reaches, .ref z_knotOf, .int 0, .ref z_aheadOf, .ref z_rows, .ref z_deep, .ref z_left, .ref z_partOf, .ref z_sideOf, .ref z_isOdd, .int 0, .ref z_row]))] [] sz)) (va_Qi (fun (r : Int32) (_ : Unit) => r = (-2)) (cEnd (dC, dI) [] [] (va_A [(qm, .inr (5, [.int 0, .ref z_isArc, .ref z_reaches, .ref z_knotOf, .int 0, .ref z_aheadOf, .ref z_rows, .ref z_deep, .ref z_left, .ref z_partOf, .ref z_sideOf, .ref z_isOdd, .int 0, .ref z_row]))] sz)) (va_A [(qm, .inr (5, [.int 0, .ref z_isArc, .ref z_reaches, .ref z_knotOf, .int 0, .ref z_aheadOf, .ref z_rows, .ref z_deep, .ref z_left, .ref z_partOf, .ref z_sideOf, .ref z_isOdd, .int 0, .ref z_row]))] sz)) 0 0 (va_A [(qm, .inr (5, [.int 0, .ref z_isArc, .ref z_reaches, .ref z_knotOf, .int 0, .ref z_aheadOf, .ref z_rows, .ref z_deep, .ref z_left, .ref z_partOf, .ref z_sideOf, .ref z_isOdd, .int 0, .ref z_row]))] sz) := by
  refine Met.ofW (cc := prog_7_method_22_code) (maxL := 3) (ret := (some .int)) (by decide) rfl ?_
  intro p e s m args below meth c s₁ B hml hv
  obtain ⟨rfl, hsz, hP, hK, hD0, hN⟩ := hv
  have hx := B.exec
  have hb := B.bytes
  have hr := B.returns
  have hts := ww_hts (atoms_spec (ws := ww ({ cls := "StrongPartsModel", name := "steps", desc := "(II)I" } : Jvm.MethodName) prog_7_method_22_code 3 (some .int)) B.pre)
  have hown : s.vm.findClass "StrongPartsModel" = some m.cls := findClass_of_methodNamed B.named
  have hlocks := B.notSynchronized
  subst hsz
  have hD := hD0.self (sz := s.heap.size)
  generalize hAe : va_A [(qm, .inr (5, [.int 0, .ref z_isArc, .ref z_reaches, .ref z_knotOf, .int 0, .ref z_aheadOf, .ref z_rows, .ref z_deep, .ref z_left, .ref z_partOf, .ref z_sideOf, .ref z_isOdd, .int 0, .ref z_row]))] s.heap.size = A at hD ⊢
  have hA : ∀ q : Nat, s.heap.size ≤ q → A q := fun q h => by rw [← hAe]; exact Or.inr h
  have hS : va_S A s.heap s.heap [] := va_S.rf
  have hP : va_P (dC, dI) classes [(qm, .inr (5, [.int 0, .ref z_isArc, .ref z_reaches, .ref z_knotOf, .int 0, .ref z_aheadOf, .ref z_rows, .ref z_deep, .ref z_left, .ref z_partOf, .ref z_sideOf, .ref z_isOdd, .int 0, .ref z_row]))] s.heap := hP
  have hl := lv_entry ([.ref qm, .int p0, .int p1]) (n := 3) (Nat.le_of_ble_eq_true rfl)
  rw [lg_entry_eq]
  generalize (lg_sl ([.ref qm, .int p0, .int p1]) ++ List.replicate (3 - (lg_sl ([.ref qm, .int p0, .int p1])).length) Slot.unset).toArray = ls at hl ⊢
  have hl : lv_has ls 3 [(0, .ref qm), (1, .int p0), (2, .int p1)] := hl
  refine lv_aload_n hx hb d_p7_22_0 rfl (lv_at hl 0 rfl) ?_
  refine lv_iload_n hx hb d_p7_22_1 rfl (lv_at hl 1 rfl) ?_
  have hPc := hP.sub (ws' := [(qm, .inr (5, [.int 0, .ref z_isArc, .ref z_reaches, .ref z_knotOf, .int 0, .ref z_aheadOf, .ref z_rows, .ref z_deep, .ref z_left, .ref z_partOf, .ref z_sideOf, .ref z_isOdd, .int 0, .ref z_row]))]) [0] rfl
  have hDc := hD.sub (ws' := [(qm, .inr (5, [.int 0, .ref z_isArc, .ref z_reaches, .ref z_knotOf, .int 0, .ref z_aheadOf, .ref z_rows, .ref z_deep, .ref z_left, .ref z_partOf, .ref z_sideOf, .ref z_isOdd, .int 0, .ref z_row]))]) [0] (by decide) rfl
  have hKc := hK.sub (tys' := []) [] rfl
  have hFc := va_free (wc := [(qm, .inr (5, [.int 0, .ref z_isArc, .ref z_reaches, .ref z_knotOf, .int 0, .ref z_aheadOf, .ref z_rows, .ref z_deep, .ref z_left, .ref z_partOf, .ref z_sideOf, .ref z_isOdd, .int 0, .ref z_row]))]) hD hS hA [0] rfl
  refine va_calli (va_runV (As := [.int p0]) (rest := []) ⟨hx, hb, hml, hown, hts⟩ (c_M_isNode l dC dI qm z_isArc z_reaches z_knotOf z_aheadOf z_rows z_deep z_left z_partOf z_sideOf z_isOdd z_row p0 s.heap.size) (cwV 1 hts (gV gd_546 tw_543 tw_545 tw_36 tw_60) rfl rfl rfl (by decide +kernel) ⟨Nat.le_of_ble_eq_true rfl, Nat.le_of_ble_eq_true rfl⟩) ⟨cPre_blind, va_recv hKc hPc (ci := 5) (q0 := 0) rfl rfl, cPre_pre hPc hKc hDc hN⟩ rfl rfl hl.1 rfl (lv_room (Nat.le_of_ble_eq_true rfl)) d_p7_22_2 ⟨Nat.le_of_ble_eq_true rfl, Nat.le_of_ble_eq_true rfl⟩) hS (fun q _ h => hFc q h) hFc (fun r_1 u t H1 locs ht hvm hw hB hz1 hk1 hS => ?_)
  obtain ⟨hP1, hK1, hD1⟩ := hB
  rw [ht] at hP1
  obtain ⟨hP, hD⟩ := va_join (wr := []) (w1 := [(qm, .inr (5, [.int 0, .ref z_isArc, .ref z_reaches, .ref z_knotOf, .int 0, .ref z_aheadOf, .ref z_rows, .ref z_deep, .ref z_left, .ref z_partOf, .ref z_sideOf, .ref z_isOdd, .int 0, .ref z_row]))]) hP hD [0] [] rfl rfl (by decide) (by decide) hk1 hFc hP1 hD1
  generalize H1 = H at hP hS ⊢
  have hP : va_P (dC, dI) classes [(qm, .inr (5, [.int 0, .ref z_isArc, .ref z_reaches, .ref z_knotOf, .int 0, .ref z_aheadOf, .ref z_rows, .ref z_deep, .ref z_left, .ref z_partOf, .ref z_sideOf, .ref z_isOdd, .int 0, .ref z_row]))] H := hP
  have hD : va_D A [(qm, .inr (5, [.int 0, .ref z_isArc, .ref z_reaches, .ref z_knotOf, .int 0, .ref z_aheadOf, .ref z_rows, .ref z_deep, .ref z_left, .ref z_partOf, .ref z_sideOf, .ref z_isOdd, .int 0, .ref z_row]))] := hD
  obtain rfl : r_1 = (0 : Int32) := hw
  refine lv_if_eq (tgt := 16) hx hb d_p7_22_5 (by decide) (fun _ => ?_) (fun c => absurd (by decide) c)
  refine lv_bipush (v := (-2)) hx hb d_p7_22_16 (by decide) ?_
  have hP9 := hP.sub (ws' := []) [] rfl
  have hD9 := hD.sub (ws' := []) [] (by decide) rfl
  have hK9 := hK.sub (tys' := []) [] rfl
  exact W.iret (v := (-2)) hx hb hr (fun t ht hW => ⟨⟨(-2), (), rfl, rfl, cEnd_mk hP9 hK9 hD9 ht hW⟩, hS.F ht⟩) hS.2.2 d_p7_22_18

set_option maxHeartbeats 4000000 in
set_option maxRecDepth 100000 in
theorem c_M_gates (l : Launch) (dC : Nat → ClassId) (dI : Nat → Nat → Nat) (qm : Nat) (z_isArc : Nat) (z_reaches : Nat) (z_knotOf : Nat) (z_aheadOf : Nat) (z_rows : Nat) (z_deep : Nat) (z_left : Nat) (z_partOf : Nat) (z_sideOf : Nat) (z_isOdd : Nat) (z_row : Nat) (p0 : Int32) (p1 : Int32) (sz : Nat) : Met l ({ cls := "StrongPartsModel", name := "gates", desc := "(II)I" } : Jvm.MethodName) (ww ({ cls := "StrongPartsModel", name := "gates", desc := "(II)I" } : Jvm.MethodName) prog_7_method_41_code 3 (some .int)) ({ frames := 2, cells := 0, slots := 0, locals := 43 }) (va_Pc [.ref qm, .int p0, .int p1] (cPre (dC, dI) [(qm, .inr (5, [.int 0, .ref z_isArc, .ref z_reaches, .ref z_knotOf, .int 0, .ref z_aheadOf, .ref z_rows, .ref z_deep, .ref z_left, .ref z_partOf, .ref z_sideOf, .ref z_isOdd, .int 0, .ref z_row]))] [] sz)) (va_Qi (fun (r : Int32) (_ : Unit) => r = (-2)) (cEnd (dC, dI) [] [] (va_A [(qm, .inr (5, [.int 0, .ref z_isArc, .ref z_reaches, .ref z_knotOf, .int 0, .ref z_aheadOf, .ref z_rows, .ref z_deep, .ref z_left, .ref z_partOf, .ref z_sideOf, .ref z_isOdd, .int 0, .ref z_row]))] sz)) (va_A [(qm, .inr (5, [.int 0, .ref z_isArc, .ref z_reaches, .ref z_knotOf, .int 0, .ref z_aheadOf, .ref z_rows, .ref z_deep, .ref z_left, .ref z_partOf, .ref z_sideOf, .ref z_isOdd, .int 0, .ref z_row]))] sz)) 0 0 (va_A [(qm, .inr (5, [.int 0, .ref z_isArc, .ref z_reaches, .ref z_knotOf, .int 0, .ref z_aheadOf, .ref z_rows, .ref z_deep, .ref z_left, .ref z_partOf, .ref z_sideOf, .ref z_isOdd, .int 0, .ref z_row]))] sz) := by
  refine Met.ofW (cc := prog_7_method_41_code) (maxL := 3) (ret := (some .int)) (by decide) rfl ?_
  intro p e s m args below meth c s₁ B hml hv
  obtain ⟨rfl, hsz, hP, hK, hD0, hN⟩ := hv
  have hx := B.exec
  have hb := B.bytes
  have hr := B.returns
  have hts := ww_hts (atoms_spec (ws := ww ({ cls := "StrongPartsModel", name := "gates", desc := "(II)I" } : Jvm.MethodName) prog_7_method_41_code 3 (some .int)) B.pre)
  have hown : s.vm.findClass "StrongPartsModel" = some m.cls := findClass_of_methodNamed B.named
  have hlocks := B.notSynchronized
  subst hsz
  have hD := hD0.self (sz := s.heap.size)
  generalize hAe : va_A [(qm, .inr (5, [.int 0, .ref z_isArc, .ref z_reaches, .ref z_knotOf, .int 0, .ref z_aheadOf, .ref z_rows, .ref z_deep, .ref z_left, .ref z_partOf, .ref z_sideOf, .ref z_isOdd, .int 0, .ref z_row]))] s.heap.size = A at hD ⊢
  have hA : ∀ q : Nat, s.heap.size ≤ q → A q := fun q h => by rw [← hAe]; exact Or.inr h
  have hS : va_S A s.heap s.heap [] := va_S.rf
  have hP : va_P (dC, dI) classes [(qm, .inr (5, [.int 0, .ref z_isArc, .ref z_reaches, .ref z_knotOf, .int 0, .ref z_aheadOf, .ref z_rows, .ref z_deep, .ref z_left, .ref z_partOf, .ref z_sideOf, .ref z_isOdd, .int 0, .ref z_row]))] s.heap := hP
  have hl := lv_entry ([.ref qm, .int p0, .int p1]) (n := 3) (Nat.le_of_ble_eq_true rfl)
  rw [lg_entry_eq]
  generalize (lg_sl ([.ref qm, .int p0, .int p1]) ++ List.replicate (3 - (lg_sl ([.ref qm, .int p0, .int p1])).length) Slot.unset).toArray = ls at hl ⊢
  have hl : lv_has ls 3 [(0, .ref qm), (1, .int p0), (2, .int p1)] := hl
  refine lv_aload_n hx hb d_p7_41_0 rfl (lv_at hl 0 rfl) ?_
  refine lv_iload_n hx hb d_p7_41_1 rfl (lv_at hl 1 rfl) ?_
  have hPc := hP.sub (ws' := [(qm, .inr (5, [.int 0, .ref z_isArc, .ref z_reaches, .ref z_knotOf, .int 0, .ref z_aheadOf, .ref z_rows, .ref z_deep, .ref z_left, .ref z_partOf, .ref z_sideOf, .ref z_isOdd, .int 0, .ref z_row]))]) [0] rfl
  have hDc := hD.sub (ws' := [(qm, .inr (5, [.int 0, .ref z_isArc, .ref z_reaches, .ref z_knotOf, .int 0, .ref z_aheadOf, .ref z_rows, .ref z_deep, .ref z_left, .ref z_partOf, .ref z_sideOf, .ref z_isOdd, .int 0, .ref z_row]))]) [0] (by decide) rfl
  have hKc := hK.sub (tys' := []) [] rfl
  have hFc := va_free (wc := [(qm, .inr (5, [.int 0, .ref z_isArc, .ref z_reaches, .ref z_knotOf, .int 0, .ref z_aheadOf, .ref z_rows, .ref z_deep, .ref z_left, .ref z_partOf, .ref z_sideOf, .ref z_isOdd, .int 0, .ref z_row]))]) hD hS hA [0] rfl
  refine va_calli (va_runV (As := [.int p0]) (rest := []) ⟨hx, hb, hml, hown, hts⟩ (c_M_isNode l dC dI qm z_isArc z_reaches z_knotOf z_aheadOf z_rows z_deep z_left z_partOf z_sideOf z_isOdd z_row p0 s.heap.size) (cwV 1 hts (gV gd_546 tw_543 tw_545 tw_36 tw_60) rfl rfl rfl (by decide +kernel) ⟨Nat.le_of_ble_eq_true rfl, Nat.le_of_ble_eq_true rfl⟩) ⟨cPre_blind, va_recv hKc hPc (ci := 5) (q0 := 0) rfl rfl, cPre_pre hPc hKc hDc hN⟩ rfl rfl hl.1 rfl (lv_room (Nat.le_of_ble_eq_true rfl)) d_p7_41_2 ⟨Nat.le_of_ble_eq_true rfl, Nat.le_of_ble_eq_true rfl⟩) hS (fun q _ h => hFc q h) hFc (fun r_1 u t H1 locs ht hvm hw hB hz1 hk1 hS => ?_)
  obtain ⟨hP1, hK1, hD1⟩ := hB
  rw [ht] at hP1
  obtain ⟨hP, hD⟩ := va_join (wr := []) (w1 := [(qm, .inr (5, [.int 0, .ref z_isArc, .ref z_reaches, .ref z_knotOf, .int 0, .ref z_aheadOf, .ref z_rows, .ref z_deep, .ref z_left, .ref z_partOf, .ref z_sideOf, .ref z_isOdd, .int 0, .ref z_row]))]) hP hD [0] [] rfl rfl (by decide) (by decide) hk1 hFc hP1 hD1
  generalize H1 = H at hP hS ⊢
  have hP : va_P (dC, dI) classes [(qm, .inr (5, [.int 0, .ref z_isArc, .ref z_reaches, .ref z_knotOf, .int 0, .ref z_aheadOf, .ref z_rows, .ref z_deep, .ref z_left, .ref z_partOf, .ref z_sideOf, .ref z_isOdd, .int 0, .ref z_row]))] H := hP
  have hD : va_D A [(qm, .inr (5, [.int 0, .ref z_isArc, .ref z_reaches, .ref z_knotOf, .int 0, .ref z_aheadOf, .ref z_rows, .ref z_deep, .ref z_left, .ref z_partOf, .ref z_sideOf, .ref z_isOdd, .int 0, .ref z_row]))] := hD
  obtain rfl : r_1 = (0 : Int32) := hw
  refine lv_if_eq (tgt := 16) hx hb d_p7_41_5 (by decide) (fun _ => ?_) (fun c => absurd (by decide) c)
  refine lv_bipush (v := (-2)) hx hb d_p7_41_16 (by decide) ?_
  have hP9 := hP.sub (ws' := []) [] rfl
  have hD9 := hD.sub (ws' := []) [] (by decide) rfl
  have hK9 := hK.sub (tys' := []) [] rfl
  exact W.iret (v := (-2)) hx hb hr (fun t ht hW => ⟨⟨(-2), (), rfl, rfl, cEnd_mk hP9 hK9 hD9 ht hW⟩, hS.F ht⟩) hS.2.2 d_p7_41_18

set_option maxHeartbeats 4000000 in
set_option maxRecDepth 100000 in
theorem c_M_gate (l : Launch) (dC : Nat → ClassId) (dI : Nat → Nat → Nat) (qm : Nat) (z_isArc : Nat) (z_reaches : Nat) (z_knotOf : Nat) (z_aheadOf : Nat) (z_rows : Nat) (z_deep : Nat) (z_left : Nat) (z_partOf : Nat) (z_sideOf : Nat) (z_isOdd : Nat) (z_row : Nat) (p0 : Int32) (p1 : Int32) (sz : Nat) : Met l ({ cls := "StrongPartsModel", name := "gate", desc := "(II)I" } : Jvm.MethodName) (ww ({ cls := "StrongPartsModel", name := "gate", desc := "(II)I" } : Jvm.MethodName) prog_7_method_43_code 7 (some .int)) ({ frames := 2, cells := 0, slots := 0, locals := 43 }) (va_Pc [.ref qm, .int p0, .int p1] (cPre (dC, dI) [(qm, .inr (5, [.int 0, .ref z_isArc, .ref z_reaches, .ref z_knotOf, .int 0, .ref z_aheadOf, .ref z_rows, .ref z_deep, .ref z_left, .ref z_partOf, .ref z_sideOf, .ref z_isOdd, .int 0, .ref z_row]))] [] sz)) (va_Qi (fun (r : Int32) (_ : Unit) => r = (-2)) (cEnd (dC, dI) [] [] (va_A [(qm, .inr (5, [.int 0, .ref z_isArc, .ref z_reaches, .ref z_knotOf, .int 0, .ref z_aheadOf, .ref z_rows, .ref z_deep, .ref z_left, .ref z_partOf, .ref z_sideOf, .ref z_isOdd, .int 0, .ref z_row]))] sz)) (va_A [(qm, .inr (5, [.int 0, .ref z_isArc, .ref z_reaches, .ref z_knotOf, .int 0, .ref z_aheadOf, .ref z_rows, .ref z_deep, .ref z_left, .ref z_partOf, .ref z_sideOf, .ref z_isOdd, .int 0, .ref z_row]))] sz)) 0 0 (va_A [(qm, .inr (5, [.int 0, .ref z_isArc, .ref z_reaches, .ref z_knotOf, .int 0, .ref z_aheadOf, .ref z_rows, .ref z_deep, .ref z_left, .ref z_partOf, .ref z_sideOf, .ref z_isOdd, .int 0, .ref z_row]))] sz) := by
  refine Met.ofW (cc := prog_7_method_43_code) (maxL := 7) (ret := (some .int)) (by decide) rfl ?_
  intro p e s m args below meth c s₁ B hml hv
  obtain ⟨rfl, hsz, hP, hK, hD0, hN⟩ := hv
  have hx := B.exec
  have hb := B.bytes
  have hr := B.returns
  have hts := ww_hts (atoms_spec (ws := ww ({ cls := "StrongPartsModel", name := "gate", desc := "(II)I" } : Jvm.MethodName) prog_7_method_43_code 7 (some .int)) B.pre)
  have hown : s.vm.findClass "StrongPartsModel" = some m.cls := findClass_of_methodNamed B.named
  have hlocks := B.notSynchronized
  subst hsz
  have hD := hD0.self (sz := s.heap.size)
  generalize hAe : va_A [(qm, .inr (5, [.int 0, .ref z_isArc, .ref z_reaches, .ref z_knotOf, .int 0, .ref z_aheadOf, .ref z_rows, .ref z_deep, .ref z_left, .ref z_partOf, .ref z_sideOf, .ref z_isOdd, .int 0, .ref z_row]))] s.heap.size = A at hD ⊢
  have hA : ∀ q : Nat, s.heap.size ≤ q → A q := fun q h => by rw [← hAe]; exact Or.inr h
  have hS : va_S A s.heap s.heap [] := va_S.rf
  have hP : va_P (dC, dI) classes [(qm, .inr (5, [.int 0, .ref z_isArc, .ref z_reaches, .ref z_knotOf, .int 0, .ref z_aheadOf, .ref z_rows, .ref z_deep, .ref z_left, .ref z_partOf, .ref z_sideOf, .ref z_isOdd, .int 0, .ref z_row]))] s.heap := hP
  have hl := lv_entry ([.ref qm, .int p0, .int p1]) (n := 7) (Nat.le_of_ble_eq_true rfl)
  rw [lg_entry_eq]
  generalize (lg_sl ([.ref qm, .int p0, .int p1]) ++ List.replicate (7 - (lg_sl ([.ref qm, .int p0, .int p1])).length) Slot.unset).toArray = ls at hl ⊢
  have hl : lv_has ls 7 [(0, .ref qm), (1, .int p0), (2, .int p1)] := hl
  refine lv_aload_n hx hb d_p7_43_0 rfl (lv_at hl 0 rfl) ?_
  refine lv_iload_n hx hb d_p7_43_1 rfl (lv_at hl 1 rfl) ?_
  have hPc := hP.sub (ws' := [(qm, .inr (5, [.int 0, .ref z_isArc, .ref z_reaches, .ref z_knotOf, .int 0, .ref z_aheadOf, .ref z_rows, .ref z_deep, .ref z_left, .ref z_partOf, .ref z_sideOf, .ref z_isOdd, .int 0, .ref z_row]))]) [0] rfl
  have hDc := hD.sub (ws' := [(qm, .inr (5, [.int 0, .ref z_isArc, .ref z_reaches, .ref z_knotOf, .int 0, .ref z_aheadOf, .ref z_rows, .ref z_deep, .ref z_left, .ref z_partOf, .ref z_sideOf, .ref z_isOdd, .int 0, .ref z_row]))]) [0] (by decide) rfl
  have hKc := hK.sub (tys' := []) [] rfl
  have hFc := va_free (wc := [(qm, .inr (5, [.int 0, .ref z_isArc, .ref z_reaches, .ref z_knotOf, .int 0, .ref z_aheadOf, .ref z_rows, .ref z_deep, .ref z_left, .ref z_partOf, .ref z_sideOf, .ref z_isOdd, .int 0, .ref z_row]))]) hD hS hA [0] rfl
  refine va_calli (va_runV (As := [.int p0]) (rest := []) ⟨hx, hb, hml, hown, hts⟩ (c_M_isNode l dC dI qm z_isArc z_reaches z_knotOf z_aheadOf z_rows z_deep z_left z_partOf z_sideOf z_isOdd z_row p0 s.heap.size) (cwV 1 hts (gV gd_546 tw_543 tw_545 tw_36 tw_60) rfl rfl rfl (by decide +kernel) ⟨Nat.le_of_ble_eq_true rfl, Nat.le_of_ble_eq_true rfl⟩) ⟨cPre_blind, va_recv hKc hPc (ci := 5) (q0 := 0) rfl rfl, cPre_pre hPc hKc hDc hN⟩ rfl rfl hl.1 rfl (lv_room (Nat.le_of_ble_eq_true rfl)) d_p7_43_2 ⟨Nat.le_of_ble_eq_true rfl, Nat.le_of_ble_eq_true rfl⟩) hS (fun q _ h => hFc q h) hFc (fun r_1 u t H1 locs ht hvm hw hB hz1 hk1 hS => ?_)
  obtain ⟨hP1, hK1, hD1⟩ := hB
  rw [ht] at hP1
  obtain ⟨hP, hD⟩ := va_join (wr := []) (w1 := [(qm, .inr (5, [.int 0, .ref z_isArc, .ref z_reaches, .ref z_knotOf, .int 0, .ref z_aheadOf, .ref z_rows, .ref z_deep, .ref z_left, .ref z_partOf, .ref z_sideOf, .ref z_isOdd, .int 0, .ref z_row]))]) hP hD [0] [] rfl rfl (by decide) (by decide) hk1 hFc hP1 hD1
  generalize H1 = H at hP hS ⊢
  have hP : va_P (dC, dI) classes [(qm, .inr (5, [.int 0, .ref z_isArc, .ref z_reaches, .ref z_knotOf, .int 0, .ref z_aheadOf, .ref z_rows, .ref z_deep, .ref z_left, .ref z_partOf, .ref z_sideOf, .ref z_isOdd, .int 0, .ref z_row]))] H := hP
  have hD : va_D A [(qm, .inr (5, [.int 0, .ref z_isArc, .ref z_reaches, .ref z_knotOf, .int 0, .ref z_aheadOf, .ref z_rows, .ref z_deep, .ref z_left, .ref z_partOf, .ref z_sideOf, .ref z_isOdd, .int 0, .ref z_row]))] := hD
  obtain rfl : r_1 = (0 : Int32) := hw
  refine lv_if_eq (tgt := 16) hx hb d_p7_43_5 (by decide) (fun _ => ?_) (fun c => absurd (by decide) c)
  refine lv_bipush (v := (-2)) hx hb d_p7_43_16 (by decide) ?_
  have hP9 := hP.sub (ws' := []) [] rfl
  have hD9 := hD.sub (ws' := []) [] (by decide) rfl
  have hK9 := hK.sub (tys' := []) [] rfl
  exact W.iret (v := (-2)) hx hb hr (fun t ht hW => ⟨⟨(-2), (), rfl, rfl, cEnd_mk hP9 hK9 hD9 ht hW⟩, hS.F ht⟩) hS.2.2 d_p7_43_18

set_option maxHeartbeats 4000000 in
set_option maxRecDepth 100000 in
theorem c_M_needed (l : Launch) (dC : Nat → ClassId) (dI : Nat → Nat → Nat) (qm : Nat) (z_isArc : Nat) (z_reaches : Nat) (z_knotOf : Nat) (z_aheadOf : Nat) (z_rows : Nat) (z_deep : Nat) (z_left : Nat) (z_partOf : Nat) (z_sideOf : Nat) (z_isOdd : Nat) (z_row : Nat) (p0 : Int32) (p1 : Int32) (sz : Nat) : Met l ({ cls := "StrongPartsModel", name := "needed", desc := "(II)I" } : Jvm.MethodName) (ww ({ cls := "StrongPartsModel", name := "needed", desc := "(II)I" } : Jvm.MethodName) prog_7_method_45_code 3 (some .int)) ({ frames := 2, cells := 0, slots := 0, locals := 43 }) (va_Pc [.ref qm, .int p0, .int p1] (cPre (dC, dI) [(qm, .inr (5, [.int 0, .ref z_isArc, .ref z_reaches, .ref z_knotOf, .int 0, .ref z_aheadOf, .ref z_rows, .ref z_deep, .ref z_left, .ref z_partOf, .ref z_sideOf, .ref z_isOdd, .int 0, .ref z_row]))] [] sz)) (va_Qi (fun (r : Int32) (_ : Unit) => r = (-2)) (cEnd (dC, dI) [] [] (va_A [(qm, .inr (5, [.int 0, .ref z_isArc, .ref z_reaches, .ref z_knotOf, .int 0, .ref z_aheadOf, .ref z_rows, .ref z_deep, .ref z_left, .ref z_partOf, .ref z_sideOf, .ref z_isOdd, .int 0, .ref z_row]))] sz)) (va_A [(qm, .inr (5, [.int 0, .ref z_isArc, .ref z_reaches, .ref z_knotOf, .int 0, .ref z_aheadOf, .ref z_rows, .ref z_deep, .ref z_left, .ref z_partOf, .ref z_sideOf, .ref z_isOdd, .int 0, .ref z_row]))] sz)) 0 0 (va_A [(qm, .inr (5, [.int 0, .ref z_isArc, .ref z_reaches, .ref z_knotOf, .int 0, .ref z_aheadOf, .ref z_rows, .ref z_deep, .ref z_left, .ref z_partOf, .ref z_sideOf, .ref z_isOdd, .int 0, .ref z_row]))] sz) := by
  refine Met.ofW (cc := prog_7_method_45_code) (maxL := 3) (ret := (some .int)) (by decide) rfl ?_
  intro p e s m args below meth c s₁ B hml hv
  obtain ⟨rfl, hsz, hP, hK, hD0, hN⟩ := hv
  have hx := B.exec
  have hb := B.bytes
  have hr := B.returns
  have hts := ww_hts (atoms_spec (ws := ww ({ cls := "StrongPartsModel", name := "needed", desc := "(II)I" } : Jvm.MethodName) prog_7_method_45_code 3 (some .int)) B.pre)
  have hown : s.vm.findClass "StrongPartsModel" = some m.cls := findClass_of_methodNamed B.named
  have hlocks := B.notSynchronized
  subst hsz
  have hD := hD0.self (sz := s.heap.size)
  generalize hAe : va_A [(qm, .inr (5, [.int 0, .ref z_isArc, .ref z_reaches, .ref z_knotOf, .int 0, .ref z_aheadOf, .ref z_rows, .ref z_deep, .ref z_left, .ref z_partOf, .ref z_sideOf, .ref z_isOdd, .int 0, .ref z_row]))] s.heap.size = A at hD ⊢
  have hA : ∀ q : Nat, s.heap.size ≤ q → A q := fun q h => by rw [← hAe]; exact Or.inr h
  have hS : va_S A s.heap s.heap [] := va_S.rf
  have hP : va_P (dC, dI) classes [(qm, .inr (5, [.int 0, .ref z_isArc, .ref z_reaches, .ref z_knotOf, .int 0, .ref z_aheadOf, .ref z_rows, .ref z_deep, .ref z_left, .ref z_partOf, .ref z_sideOf, .ref z_isOdd, .int 0, .ref z_row]))] s.heap := hP
  have hl := lv_entry ([.ref qm, .int p0, .int p1]) (n := 3) (Nat.le_of_ble_eq_true rfl)
  rw [lg_entry_eq]
  generalize (lg_sl ([.ref qm, .int p0, .int p1]) ++ List.replicate (3 - (lg_sl ([.ref qm, .int p0, .int p1])).length) Slot.unset).toArray = ls at hl ⊢
  have hl : lv_has ls 3 [(0, .ref qm), (1, .int p0), (2, .int p1)] := hl
  refine lv_aload_n hx hb d_p7_45_0 rfl (lv_at hl 0 rfl) ?_
  refine lv_iload_n hx hb d_p7_45_1 rfl (lv_at hl 1 rfl) ?_
  have hPc := hP.sub (ws' := [(qm, .inr (5, [.int 0, .ref z_isArc, .ref z_reaches, .ref z_knotOf, .int 0, .ref z_aheadOf, .ref z_rows, .ref z_deep, .ref z_left, .ref z_partOf, .ref z_sideOf, .ref z_isOdd, .int 0, .ref z_row]))]) [0] rfl
  have hDc := hD.sub (ws' := [(qm, .inr (5, [.int 0, .ref z_isArc, .ref z_reaches, .ref z_knotOf, .int 0, .ref z_aheadOf, .ref z_rows, .ref z_deep, .ref z_left, .ref z_partOf, .ref z_sideOf, .ref z_isOdd, .int 0, .ref z_row]))]) [0] (by decide) rfl
  have hKc := hK.sub (tys' := []) [] rfl
  have hFc := va_free (wc := [(qm, .inr (5, [.int 0, .ref z_isArc, .ref z_reaches, .ref z_knotOf, .int 0, .ref z_aheadOf, .ref z_rows, .ref z_deep, .ref z_left, .ref z_partOf, .ref z_sideOf, .ref z_isOdd, .int 0, .ref z_row]))]) hD hS hA [0] rfl
  refine va_calli (va_runV (As := [.int p0]) (rest := []) ⟨hx, hb, hml, hown, hts⟩ (c_M_isNode l dC dI qm z_isArc z_reaches z_knotOf z_aheadOf z_rows z_deep z_left z_partOf z_sideOf z_isOdd z_row p0 s.heap.size) (cwV 1 hts (gV gd_546 tw_543 tw_545 tw_36 tw_60) rfl rfl rfl (by decide +kernel) ⟨Nat.le_of_ble_eq_true rfl, Nat.le_of_ble_eq_true rfl⟩) ⟨cPre_blind, va_recv hKc hPc (ci := 5) (q0 := 0) rfl rfl, cPre_pre hPc hKc hDc hN⟩ rfl rfl hl.1 rfl (lv_room (Nat.le_of_ble_eq_true rfl)) d_p7_45_2 ⟨Nat.le_of_ble_eq_true rfl, Nat.le_of_ble_eq_true rfl⟩) hS (fun q _ h => hFc q h) hFc (fun r_1 u t H1 locs ht hvm hw hB hz1 hk1 hS => ?_)
  obtain ⟨hP1, hK1, hD1⟩ := hB
  rw [ht] at hP1
  obtain ⟨hP, hD⟩ := va_join (wr := []) (w1 := [(qm, .inr (5, [.int 0, .ref z_isArc, .ref z_reaches, .ref z_knotOf, .int 0, .ref z_aheadOf, .ref z_rows, .ref z_deep, .ref z_left, .ref z_partOf, .ref z_sideOf, .ref z_isOdd, .int 0, .ref z_row]))]) hP hD [0] [] rfl rfl (by decide) (by decide) hk1 hFc hP1 hD1
  generalize H1 = H at hP hS ⊢
  have hP : va_P (dC, dI) classes [(qm, .inr (5, [.int 0, .ref z_isArc, .ref z_reaches, .ref z_knotOf, .int 0, .ref z_aheadOf, .ref z_rows, .ref z_deep, .ref z_left, .ref z_partOf, .ref z_sideOf, .ref z_isOdd, .int 0, .ref z_row]))] H := hP
  have hD : va_D A [(qm, .inr (5, [.int 0, .ref z_isArc, .ref z_reaches, .ref z_knotOf, .int 0, .ref z_aheadOf, .ref z_rows, .ref z_deep, .ref z_left, .ref z_partOf, .ref z_sideOf, .ref z_isOdd, .int 0, .ref z_row]))] := hD
  obtain rfl : r_1 = (0 : Int32) := hw
  refine lv_if_eq (tgt := 21) hx hb d_p7_45_5 (by decide) (fun _ => ?_) (fun c => absurd (by decide) c)
  refine lv_bipush (v := (-2)) hx hb d_p7_45_21 (by decide) ?_
  have hP9 := hP.sub (ws' := []) [] rfl
  have hD9 := hD.sub (ws' := []) [] (by decide) rfl
  have hK9 := hK.sub (tys' := []) [] rfl
  exact W.iret (v := (-2)) hx hb hr (fun t ht hW => ⟨⟨(-2), (), rfl, rfl, cEnd_mk hP9 hK9 hD9 ht hW⟩, hS.F ht⟩) hS.2.2 d_p7_45_23

set_option maxHeartbeats 4000000 in
set_option maxRecDepth 100000 in
theorem c_M_way (l : Launch) (dC : Nat → ClassId) (dI : Nat → Nat → Nat) (qm : Nat) (z_isArc : Nat) (z_reaches : Nat) (z_knotOf : Nat) (z_aheadOf : Nat) (z_rows : Nat) (z_deep : Nat) (z_left : Nat) (z_partOf : Nat) (z_sideOf : Nat) (z_isOdd : Nat) (z_row : Nat) (p0 : Int32) (p1 : Int32) (p2 : Int32) (sz : Nat) : Met l ({ cls := "StrongPartsModel", name := "way", desc := "(III)I" } : Jvm.MethodName) (ww ({ cls := "StrongPartsModel", name := "way", desc := "(III)I" } : Jvm.MethodName) prog_7_method_23_code 7 (some .int)) ({ frames := 2, cells := 0, slots := 0, locals := 43 }) (va_Pc [.ref qm, .int p0, .int p1, .int p2] (cPre (dC, dI) [(qm, .inr (5, [.int 0, .ref z_isArc, .ref z_reaches, .ref z_knotOf, .int 0, .ref z_aheadOf, .ref z_rows, .ref z_deep, .ref z_left, .ref z_partOf, .ref z_sideOf, .ref z_isOdd, .int 0, .ref z_row]))] [] sz)) (va_Qi (fun (r : Int32) (_ : Unit) => r = (-2)) (cEnd (dC, dI) [] [] (va_A [(qm, .inr (5, [.int 0, .ref z_isArc, .ref z_reaches, .ref z_knotOf, .int 0, .ref z_aheadOf, .ref z_rows, .ref z_deep, .ref z_left, .ref z_partOf, .ref z_sideOf, .ref z_isOdd, .int 0, .ref z_row]))] sz)) (va_A [(qm, .inr (5, [.int 0, .ref z_isArc, .ref z_reaches, .ref z_knotOf, .int 0, .ref z_aheadOf, .ref z_rows, .ref z_deep, .ref z_left, .ref z_partOf, .ref z_sideOf, .ref z_isOdd, .int 0, .ref z_row]))] sz)) 0 0 (va_A [(qm, .inr (5, [.int 0, .ref z_isArc, .ref z_reaches, .ref z_knotOf, .int 0, .ref z_aheadOf, .ref z_rows, .ref z_deep, .ref z_left, .ref z_partOf, .ref z_sideOf, .ref z_isOdd, .int 0, .ref z_row]))] sz) := by
  refine Met.ofW (cc := prog_7_method_23_code) (maxL := 7) (ret := (some .int)) (by decide) rfl ?_
  intro p e s m args below meth c s₁ B hml hv
  obtain ⟨rfl, hsz, hP, hK, hD0, hN⟩ := hv
  have hx := B.exec
  have hb := B.bytes
  have hr := B.returns
  have hts := ww_hts (atoms_spec (ws := ww ({ cls := "StrongPartsModel", name := "way", desc := "(III)I" } : Jvm.MethodName) prog_7_method_23_code 7 (some .int)) B.pre)
  have hown : s.vm.findClass "StrongPartsModel" = some m.cls := findClass_of_methodNamed B.named
  have hlocks := B.notSynchronized
  subst hsz
  have hD := hD0.self (sz := s.heap.size)
  generalize hAe : va_A [(qm, .inr (5, [.int 0, .ref z_isArc, .ref z_reaches, .ref z_knotOf, .int 0, .ref z_aheadOf, .ref z_rows, .ref z_deep, .ref z_left, .ref z_partOf, .ref z_sideOf, .ref z_isOdd, .int 0, .ref z_row]))] s.heap.size = A at hD ⊢
  have hA : ∀ q : Nat, s.heap.size ≤ q → A q := fun q h => by rw [← hAe]; exact Or.inr h
  have hS : va_S A s.heap s.heap [] := va_S.rf
  have hP : va_P (dC, dI) classes [(qm, .inr (5, [.int 0, .ref z_isArc, .ref z_reaches, .ref z_knotOf, .int 0, .ref z_aheadOf, .ref z_rows, .ref z_deep, .ref z_left, .ref z_partOf, .ref z_sideOf, .ref z_isOdd, .int 0, .ref z_row]))] s.heap := hP
  have hl := lv_entry ([.ref qm, .int p0, .int p1, .int p2]) (n := 7) (Nat.le_of_ble_eq_true rfl)
  rw [lg_entry_eq]
  generalize (lg_sl ([.ref qm, .int p0, .int p1, .int p2]) ++ List.replicate (7 - (lg_sl ([.ref qm, .int p0, .int p1, .int p2])).length) Slot.unset).toArray = ls at hl ⊢
  have hl : lv_has ls 7 [(0, .ref qm), (1, .int p0), (2, .int p1), (3, .int p2)] := hl
  refine lv_aload_n hx hb d_p7_23_0 rfl (lv_at hl 0 rfl) ?_
  refine lv_iload_n hx hb d_p7_23_1 rfl (lv_at hl 1 rfl) ?_
  have hPc := hP.sub (ws' := [(qm, .inr (5, [.int 0, .ref z_isArc, .ref z_reaches, .ref z_knotOf, .int 0, .ref z_aheadOf, .ref z_rows, .ref z_deep, .ref z_left, .ref z_partOf, .ref z_sideOf, .ref z_isOdd, .int 0, .ref z_row]))]) [0] rfl
  have hDc := hD.sub (ws' := [(qm, .inr (5, [.int 0, .ref z_isArc, .ref z_reaches, .ref z_knotOf, .int 0, .ref z_aheadOf, .ref z_rows, .ref z_deep, .ref z_left, .ref z_partOf, .ref z_sideOf, .ref z_isOdd, .int 0, .ref z_row]))]) [0] (by decide) rfl
  have hKc := hK.sub (tys' := []) [] rfl
  have hFc := va_free (wc := [(qm, .inr (5, [.int 0, .ref z_isArc, .ref z_reaches, .ref z_knotOf, .int 0, .ref z_aheadOf, .ref z_rows, .ref z_deep, .ref z_left, .ref z_partOf, .ref z_sideOf, .ref z_isOdd, .int 0, .ref z_row]))]) hD hS hA [0] rfl
  refine va_calli (va_runV (As := [.int p0]) (rest := []) ⟨hx, hb, hml, hown, hts⟩ (c_M_isNode l dC dI qm z_isArc z_reaches z_knotOf z_aheadOf z_rows z_deep z_left z_partOf z_sideOf z_isOdd z_row p0 s.heap.size) (cwV 1 hts (gV gd_546 tw_543 tw_545 tw_36 tw_60) rfl rfl rfl (by decide +kernel) ⟨Nat.le_of_ble_eq_true rfl, Nat.le_of_ble_eq_true rfl⟩) ⟨cPre_blind, va_recv hKc hPc (ci := 5) (q0 := 0) rfl rfl, cPre_pre hPc hKc hDc hN⟩ rfl rfl hl.1 rfl (lv_room (Nat.le_of_ble_eq_true rfl)) d_p7_23_2 ⟨Nat.le_of_ble_eq_true rfl, Nat.le_of_ble_eq_true rfl⟩) hS (fun q _ h => hFc q h) hFc (fun r_1 u t H1 locs ht hvm hw hB hz1 hk1 hS => ?_)
  obtain ⟨hP1, hK1, hD1⟩ := hB
  rw [ht] at hP1
  obtain ⟨hP, hD⟩ := va_join (wr := []) (w1 := [(qm, .inr (5, [.int 0, .ref z_isArc, .ref z_reaches, .ref z_knotOf, .int 0, .ref z_aheadOf, .ref z_rows, .ref z_deep, .ref z_left, .ref z_partOf, .ref z_sideOf, .ref z_isOdd, .int 0, .ref z_row]))]) hP hD [0] [] rfl rfl (by decide) (by decide) hk1 hFc hP1 hD1
  generalize H1 = H at hP hS ⊢
  have hP : va_P (dC, dI) classes [(qm, .inr (5, [.int 0, .ref z_isArc, .ref z_reaches, .ref z_knotOf, .int 0, .ref z_aheadOf, .ref z_rows, .ref z_deep, .ref z_left, .ref z_partOf, .ref z_sideOf, .ref z_isOdd, .int 0, .ref z_row]))] H := hP
  have hD : va_D A [(qm, .inr (5, [.int 0, .ref z_isArc, .ref z_reaches, .ref z_knotOf, .int 0, .ref z_aheadOf, .ref z_rows, .ref z_deep, .ref z_left, .ref z_partOf, .ref z_sideOf, .ref z_isOdd, .int 0, .ref z_row]))] := hD
  obtain rfl : r_1 = (0 : Int32) := hw
  refine lv_if_eq (tgt := 16) hx hb d_p7_23_5 (by decide) (fun _ => ?_) (fun c => absurd (by decide) c)
  refine lv_bipush (v := (-2)) hx hb d_p7_23_16 (by decide) ?_
  have hP9 := hP.sub (ws' := []) [] rfl
  have hD9 := hD.sub (ws' := []) [] (by decide) rfl
  have hK9 := hK.sub (tys' := []) [] rfl
  exact W.iret (v := (-2)) hx hb hr (fun t ht hW => ⟨⟨(-2), (), rfl, rfl, cEnd_mk hP9 hK9 hD9 ht hW⟩, hS.F ht⟩) hS.2.2 d_p7_23_18

set_option maxHeartbeats 4000000 in
set_option maxRecDepth 100000 in
theorem c_M_reached (l : Launch) (dC : Nat → ClassId) (dI : Nat → Nat → Nat) (qm : Nat) (z_isArc : Nat) (z_reaches : Nat) (z_knotOf : Nat) (z_aheadOf : Nat) (z_rows : Nat) (z_deep : Nat) (z_left : Nat) (z_partOf : Nat) (z_sideOf : Nat) (z_isOdd : Nat) (z_row : Nat) (p0 : Int32) (p1 : Int32) (sz : Nat) : Met l ({ cls := "StrongPartsModel", name := "reached", desc := "(II)I" } : Jvm.MethodName) (ww ({ cls := "StrongPartsModel", name := "reached", desc := "(II)I" } : Jvm.MethodName) prog_7_method_24_code 5 (some .int)) ({ frames := 2, cells := 0, slots := 0, locals := 43 }) (va_Pc [.ref qm, .int p0, .int p1] (cPre (dC, dI) [(qm, .inr (5, [.int 0, .ref z_isArc, .ref z_reaches, .ref z_knotOf, .int 0, .ref z_aheadOf, .ref z_rows, .ref z_deep, .ref z_left, .ref z_partOf, .ref z_sideOf, .ref z_isOdd, .int 0, .ref z_row]))] [] sz)) (va_Qi (fun (r : Int32) (_ : Unit) => r = (-2)) (cEnd (dC, dI) [] [] (va_A [(qm, .inr (5, [.int 0, .ref z_isArc, .ref z_reaches, .ref z_knotOf, .int 0, .ref z_aheadOf, .ref z_rows, .ref z_deep, .ref z_left, .ref z_partOf, .ref z_sideOf, .ref z_isOdd, .int 0, .ref z_row]))] sz)) (va_A [(qm, .inr (5, [.int 0, .ref z_isArc, .ref z_reaches, .ref z_knotOf, .int 0, .ref z_aheadOf, .ref z_rows, .ref z_deep, .ref z_left, .ref z_partOf, .ref z_sideOf, .ref z_isOdd, .int 0, .ref z_row]))] sz)) 0 0 (va_A [(qm, .inr (5, [.int 0, .ref z_isArc, .ref z_reaches, .ref z_knotOf, .int 0, .ref z_aheadOf, .ref z_rows, .ref z_deep, .ref z_left, .ref z_partOf, .ref z_sideOf, .ref z_isOdd, .int 0, .ref z_row]))] sz) := by
  refine Met.ofW (cc := prog_7_method_24_code) (maxL := 5) (ret := (some .int)) (by decide) rfl ?_
  intro p e s m args below meth c s₁ B hml hv
  obtain ⟨rfl, hsz, hP, hK, hD0, hN⟩ := hv
  have hx := B.exec
  have hb := B.bytes
  have hr := B.returns
  have hts := ww_hts (atoms_spec (ws := ww ({ cls := "StrongPartsModel", name := "reached", desc := "(II)I" } : Jvm.MethodName) prog_7_method_24_code 5 (some .int)) B.pre)
  have hown : s.vm.findClass "StrongPartsModel" = some m.cls := findClass_of_methodNamed B.named
  have hlocks := B.notSynchronized
  subst hsz
  have hD := hD0.self (sz := s.heap.size)
  generalize hAe : va_A [(qm, .inr (5, [.int 0, .ref z_isArc, .ref z_reaches, .ref z_knotOf, .int 0, .ref z_aheadOf, .ref z_rows, .ref z_deep, .ref z_left, .ref z_partOf, .ref z_sideOf, .ref z_isOdd, .int 0, .ref z_row]))] s.heap.size = A at hD ⊢
  have hA : ∀ q : Nat, s.heap.size ≤ q → A q := fun q h => by rw [← hAe]; exact Or.inr h
  have hS : va_S A s.heap s.heap [] := va_S.rf
  have hP : va_P (dC, dI) classes [(qm, .inr (5, [.int 0, .ref z_isArc, .ref z_reaches, .ref z_knotOf, .int 0, .ref z_aheadOf, .ref z_rows, .ref z_deep, .ref z_left, .ref z_partOf, .ref z_sideOf, .ref z_isOdd, .int 0, .ref z_row]))] s.heap := hP
  have hl := lv_entry ([.ref qm, .int p0, .int p1]) (n := 5) (Nat.le_of_ble_eq_true rfl)
  rw [lg_entry_eq]
  generalize (lg_sl ([.ref qm, .int p0, .int p1]) ++ List.replicate (5 - (lg_sl ([.ref qm, .int p0, .int p1])).length) Slot.unset).toArray = ls at hl ⊢
  have hl : lv_has ls 5 [(0, .ref qm), (1, .int p0), (2, .int p1)] := hl
  refine lv_aload_n hx hb d_p7_24_0 rfl (lv_at hl 0 rfl) ?_
  refine lv_iload_n hx hb d_p7_24_1 rfl (lv_at hl 1 rfl) ?_
  have hPc := hP.sub (ws' := [(qm, .inr (5, [.int 0, .ref z_isArc, .ref z_reaches, .ref z_knotOf, .int 0, .ref z_aheadOf, .ref z_rows, .ref z_deep, .ref z_left, .ref z_partOf, .ref z_sideOf, .ref z_isOdd, .int 0, .ref z_row]))]) [0] rfl
  have hDc := hD.sub (ws' := [(qm, .inr (5, [.int 0, .ref z_isArc, .ref z_reaches, .ref z_knotOf, .int 0, .ref z_aheadOf, .ref z_rows, .ref z_deep, .ref z_left, .ref z_partOf, .ref z_sideOf, .ref z_isOdd, .int 0, .ref z_row]))]) [0] (by decide) rfl
  have hKc := hK.sub (tys' := []) [] rfl
  have hFc := va_free (wc := [(qm, .inr (5, [.int 0, .ref z_isArc, .ref z_reaches, .ref z_knotOf, .int 0, .ref z_aheadOf, .ref z_rows, .ref z_deep, .ref z_left, .ref z_partOf, .ref z_sideOf, .ref z_isOdd, .int 0, .ref z_row]))]) hD hS hA [0] rfl
  refine va_calli (va_runV (As := [.int p0]) (rest := []) ⟨hx, hb, hml, hown, hts⟩ (c_M_isNode l dC dI qm z_isArc z_reaches z_knotOf z_aheadOf z_rows z_deep z_left z_partOf z_sideOf z_isOdd z_row p0 s.heap.size) (cwV 1 hts (gV gd_546 tw_543 tw_545 tw_36 tw_60) rfl rfl rfl (by decide +kernel) ⟨Nat.le_of_ble_eq_true rfl, Nat.le_of_ble_eq_true rfl⟩) ⟨cPre_blind, va_recv hKc hPc (ci := 5) (q0 := 0) rfl rfl, cPre_pre hPc hKc hDc hN⟩ rfl rfl hl.1 rfl (lv_room (Nat.le_of_ble_eq_true rfl)) d_p7_24_2 ⟨Nat.le_of_ble_eq_true rfl, Nat.le_of_ble_eq_true rfl⟩) hS (fun q _ h => hFc q h) hFc (fun r_1 u t H1 locs ht hvm hw hB hz1 hk1 hS => ?_)
  obtain ⟨hP1, hK1, hD1⟩ := hB
  rw [ht] at hP1
  obtain ⟨hP, hD⟩ := va_join (wr := []) (w1 := [(qm, .inr (5, [.int 0, .ref z_isArc, .ref z_reaches, .ref z_knotOf, .int 0, .ref z_aheadOf, .ref z_rows, .ref z_deep, .ref z_left, .ref z_partOf, .ref z_sideOf, .ref z_isOdd, .int 0, .ref z_row]))]) hP hD [0] [] rfl rfl (by decide) (by decide) hk1 hFc hP1 hD1
  generalize H1 = H at hP hS ⊢
  have hP : va_P (dC, dI) classes [(qm, .inr (5, [.int 0, .ref z_isArc, .ref z_reaches, .ref z_knotOf, .int 0, .ref z_aheadOf, .ref z_rows, .ref z_deep, .ref z_left, .ref z_partOf, .ref z_sideOf, .ref z_isOdd, .int 0, .ref z_row]))] H := hP
  have hD : va_D A [(qm, .inr (5, [.int 0, .ref z_isArc, .ref z_reaches, .ref z_knotOf, .int 0, .ref z_aheadOf, .ref z_rows, .ref z_deep, .ref z_left, .ref z_partOf, .ref z_sideOf, .ref z_isOdd, .int 0, .ref z_row]))] := hD
  obtain rfl : r_1 = (0 : Int32) := hw
  refine lv_if_eq (tgt := 17) hx hb d_p7_24_5 (by decide) (fun _ => ?_) (fun c => absurd (by decide) c)
  refine lv_bipush (v := (-2)) hx hb d_p7_24_17 (by decide) ?_
  have hP9 := hP.sub (ws' := []) [] rfl
  have hD9 := hD.sub (ws' := []) [] (by decide) rfl
  have hK9 := hK.sub (tys' := []) [] rfl
  exact W.iret (v := (-2)) hx hb hr (fun t ht hW => ⟨⟨(-2), (), rfl, rfl, cEnd_mk hP9 hK9 hD9 ht hW⟩, hS.F ht⟩) hS.2.2 d_p7_24_19

set_option maxHeartbeats 4000000 in
set_option maxRecDepth 100000 in
theorem c_M_knot (l : Launch) (dC : Nat → ClassId) (dI : Nat → Nat → Nat) (qm : Nat) (z_isArc : Nat) (z_reaches : Nat) (z_knotOf : Nat) (z_aheadOf : Nat) (z_rows : Nat) (z_deep : Nat) (z_left : Nat) (z_partOf : Nat) (z_sideOf : Nat) (z_isOdd : Nat) (z_row : Nat) (p0 : Int32) (sz : Nat) : Met l ({ cls := "StrongPartsModel", name := "knot", desc := "(I)I" } : Jvm.MethodName) (ww ({ cls := "StrongPartsModel", name := "knot", desc := "(I)I" } : Jvm.MethodName) prog_7_method_15_code 2 (some .int)) ({ frames := 2, cells := 0, slots := 0, locals := 43 }) (va_Pc [.ref qm, .int p0] (cPre (dC, dI) [(qm, .inr (5, [.int 0, .ref z_isArc, .ref z_reaches, .ref z_knotOf, .int 0, .ref z_aheadOf, .ref z_rows, .ref z_deep, .ref z_left, .ref z_partOf, .ref z_sideOf, .ref z_isOdd, .int 0, .ref z_row]))] [] sz)) (va_Qi (fun (r : Int32) (_ : Unit) => r = (-2)) (cEnd (dC, dI) [] [] (va_A [(qm, .inr (5, [.int 0, .ref z_isArc, .ref z_reaches, .ref z_knotOf, .int 0, .ref z_aheadOf, .ref z_rows, .ref z_deep, .ref z_left, .ref z_partOf, .ref z_sideOf, .ref z_isOdd, .int 0, .ref z_row]))] sz)) (va_A [(qm, .inr (5, [.int 0, .ref z_isArc, .ref z_reaches, .ref z_knotOf, .int 0, .ref z_aheadOf, .ref z_rows, .ref z_deep, .ref z_left, .ref z_partOf, .ref z_sideOf, .ref z_isOdd, .int 0, .ref z_row]))] sz)) 0 0 (va_A [(qm, .inr (5, [.int 0, .ref z_isArc, .ref z_reaches, .ref z_knotOf, .int 0, .ref z_aheadOf, .ref z_rows, .ref z_deep, .ref z_left, .ref z_partOf, .ref z_sideOf, .ref z_isOdd, .int 0, .ref z_row]))] sz) := by
  refine Met.ofW (cc := prog_7_method_15_code) (maxL := 2) (ret := (some .int)) (by decide) rfl ?_
  intro p e s m args below meth c s₁ B hml hv
  obtain ⟨rfl, hsz, hP, hK, hD0, hN⟩ := hv
  have hx := B.exec
  have hb := B.bytes
  have hr := B.returns
  have hts := ww_hts (atoms_spec (ws := ww ({ cls := "StrongPartsModel", name := "knot", desc := "(I)I" } : Jvm.MethodName) prog_7_method_15_code 2 (some .int)) B.pre)
  have hown : s.vm.findClass "StrongPartsModel" = some m.cls := findClass_of_methodNamed B.named
  have hlocks := B.notSynchronized
  subst hsz
  have hD := hD0.self (sz := s.heap.size)
  generalize hAe : va_A [(qm, .inr (5, [.int 0, .ref z_isArc, .ref z_reaches, .ref z_knotOf, .int 0, .ref z_aheadOf, .ref z_rows, .ref z_deep, .ref z_left, .ref z_partOf, .ref z_sideOf, .ref z_isOdd, .int 0, .ref z_row]))] s.heap.size = A at hD ⊢
  have hA : ∀ q : Nat, s.heap.size ≤ q → A q := fun q h => by rw [← hAe]; exact Or.inr h
  have hS : va_S A s.heap s.heap [] := va_S.rf
  have hP : va_P (dC, dI) classes [(qm, .inr (5, [.int 0, .ref z_isArc, .ref z_reaches, .ref z_knotOf, .int 0, .ref z_aheadOf, .ref z_rows, .ref z_deep, .ref z_left, .ref z_partOf, .ref z_sideOf, .ref z_isOdd, .int 0, .ref z_row]))] s.heap := hP
  have hl := lv_entry ([.ref qm, .int p0]) (n := 2) (Nat.le_of_ble_eq_true rfl)
  rw [lg_entry_eq]
  generalize (lg_sl ([.ref qm, .int p0]) ++ List.replicate (2 - (lg_sl ([.ref qm, .int p0])).length) Slot.unset).toArray = ls at hl ⊢
  have hl : lv_has ls 2 [(0, .ref qm), (1, .int p0)] := hl
  refine lv_aload_n hx hb d_p7_15_0 rfl (lv_at hl 0 rfl) ?_
  refine lv_iload_n hx hb d_p7_15_1 rfl (lv_at hl 1 rfl) ?_
  have hPc := hP.sub (ws' := [(qm, .inr (5, [.int 0, .ref z_isArc, .ref z_reaches, .ref z_knotOf, .int 0, .ref z_aheadOf, .ref z_rows, .ref z_deep, .ref z_left, .ref z_partOf, .ref z_sideOf, .ref z_isOdd, .int 0, .ref z_row]))]) [0] rfl
  have hDc := hD.sub (ws' := [(qm, .inr (5, [.int 0, .ref z_isArc, .ref z_reaches, .ref z_knotOf, .int 0, .ref z_aheadOf, .ref z_rows, .ref z_deep, .ref z_left, .ref z_partOf, .ref z_sideOf, .ref z_isOdd, .int 0, .ref z_row]))]) [0] (by decide) rfl
  have hKc := hK.sub (tys' := []) [] rfl
  have hFc := va_free (wc := [(qm, .inr (5, [.int 0, .ref z_isArc, .ref z_reaches, .ref z_knotOf, .int 0, .ref z_aheadOf, .ref z_rows, .ref z_deep, .ref z_left, .ref z_partOf, .ref z_sideOf, .ref z_isOdd, .int 0, .ref z_row]))]) hD hS hA [0] rfl
  refine va_calli (va_runV (As := [.int p0]) (rest := []) ⟨hx, hb, hml, hown, hts⟩ (c_M_isNode l dC dI qm z_isArc z_reaches z_knotOf z_aheadOf z_rows z_deep z_left z_partOf z_sideOf z_isOdd z_row p0 s.heap.size) (cwV 1 hts (gV gd_546 tw_543 tw_545 tw_36 tw_60) rfl rfl rfl (by decide +kernel) ⟨Nat.le_of_ble_eq_true rfl, Nat.le_of_ble_eq_true rfl⟩) ⟨cPre_blind, va_recv hKc hPc (ci := 5) (q0 := 0) rfl rfl, cPre_pre hPc hKc hDc hN⟩ rfl rfl hl.1 rfl (lv_room (Nat.le_of_ble_eq_true rfl)) d_p7_15_2 ⟨Nat.le_of_ble_eq_true rfl, Nat.le_of_ble_eq_true rfl⟩) hS (fun q _ h => hFc q h) hFc (fun r_1 u t H1 locs ht hvm hw hB hz1 hk1 hS => ?_)
  obtain ⟨hP1, hK1, hD1⟩ := hB
  rw [ht] at hP1
  obtain ⟨hP, hD⟩ := va_join (wr := []) (w1 := [(qm, .inr (5, [.int 0, .ref z_isArc, .ref z_reaches, .ref z_knotOf, .int 0, .ref z_aheadOf, .ref z_rows, .ref z_deep, .ref z_left, .ref z_partOf, .ref z_sideOf, .ref z_isOdd, .int 0, .ref z_row]))]) hP hD [0] [] rfl rfl (by decide) (by decide) hk1 hFc hP1 hD1
  generalize H1 = H at hP hS ⊢
  have hP : va_P (dC, dI) classes [(qm, .inr (5, [.int 0, .ref z_isArc, .ref z_reaches, .ref z_knotOf, .int 0, .ref z_aheadOf, .ref z_rows, .ref z_deep, .ref z_left, .ref z_partOf, .ref z_sideOf, .ref z_isOdd, .int 0, .ref z_row]))] H := hP
  have hD : va_D A [(qm, .inr (5, [.int 0, .ref z_isArc, .ref z_reaches, .ref z_knotOf, .int 0, .ref z_aheadOf, .ref z_rows, .ref z_deep, .ref z_left, .ref z_partOf, .ref z_sideOf, .ref z_isOdd, .int 0, .ref z_row]))] := hD
  obtain rfl : r_1 = (0 : Int32) := hw
  refine lv_if_ne (tgt := 11) hx hb d_p7_15_5 (by decide) (fun c => absurd c (by decide)) (fun _ => ?_)
  refine lv_bipush (v := (-2)) hx hb d_p7_15_8 (by decide) ?_
  have hP9 := hP.sub (ws' := []) [] rfl
  have hD9 := hD.sub (ws' := []) [] (by decide) rfl
  have hK9 := hK.sub (tys' := []) [] rfl
  exact W.iret (v := (-2)) hx hb hr (fun t ht hW => ⟨⟨(-2), (), rfl, rfl, cEnd_mk hP9 hK9 hD9 ht hW⟩, hS.F ht⟩) hS.2.2 d_p7_15_10

set_option maxHeartbeats 4000000 in
set_option maxRecDepth 100000 in
theorem c_M_round (l : Launch) (dC : Nat → ClassId) (dI : Nat → Nat → Nat) (qm : Nat) (z_isArc : Nat) (z_reaches : Nat) (z_knotOf : Nat) (z_aheadOf : Nat) (z_rows : Nat) (z_deep : Nat) (z_left : Nat) (z_partOf : Nat) (z_sideOf : Nat) (z_isOdd : Nat) (z_row : Nat) (p0 : Int32) (sz : Nat) : Met l ({ cls := "StrongPartsModel", name := "round", desc := "(I)I" } : Jvm.MethodName) (ww ({ cls := "StrongPartsModel", name := "round", desc := "(I)I" } : Jvm.MethodName) prog_7_method_25_code 4 (some .int)) ({ frames := 2, cells := 0, slots := 0, locals := 43 }) (va_Pc [.ref qm, .int p0] (cPre (dC, dI) [(qm, .inr (5, [.int 0, .ref z_isArc, .ref z_reaches, .ref z_knotOf, .int 0, .ref z_aheadOf, .ref z_rows, .ref z_deep, .ref z_left, .ref z_partOf, .ref z_sideOf, .ref z_isOdd, .int 0, .ref z_row]))] [] sz)) (va_Qi (fun (r : Int32) (_ : Unit) => r = (-2)) (cEnd (dC, dI) [] [] (va_A [(qm, .inr (5, [.int 0, .ref z_isArc, .ref z_reaches, .ref z_knotOf, .int 0, .ref z_aheadOf, .ref z_rows, .ref z_deep, .ref z_left, .ref z_partOf, .ref z_sideOf, .ref z_isOdd, .int 0, .ref z_row]))] sz)) (va_A [(qm, .inr (5, [.int 0, .ref z_isArc, .ref z_reaches, .ref z_knotOf, .int 0, .ref z_aheadOf, .ref z_rows, .ref z_deep, .ref z_left, .ref z_partOf, .ref z_sideOf, .ref z_isOdd, .int 0, .ref z_row]))] sz)) 0 0 (va_A [(qm, .inr (5, [.int 0, .ref z_isArc, .ref z_reaches, .ref z_knotOf, .int 0, .ref z_aheadOf, .ref z_rows, .ref z_deep, .ref z_left, .ref z_partOf, .ref z_sideOf, .ref z_isOdd, .int 0, .ref z_row]))] sz) := by
  refine Met.ofW (cc := prog_7_method_25_code) (maxL := 4) (ret := (some .int)) (by decide) rfl ?_
  intro p e s m args below meth c s₁ B hml hv
  obtain ⟨rfl, hsz, hP, hK, hD0, hN⟩ := hv
  have hx := B.exec
  have hb := B.bytes
  have hr := B.returns
  have hts := ww_hts (atoms_spec (ws := ww ({ cls := "StrongPartsModel", name := "round", desc := "(I)I" } : Jvm.MethodName) prog_7_method_25_code 4 (some .int)) B.pre)
  have hown : s.vm.findClass "StrongPartsModel" = some m.cls := findClass_of_methodNamed B.named
  have hlocks := B.notSynchronized
  subst hsz
  have hD := hD0.self (sz := s.heap.size)
  generalize hAe : va_A [(qm, .inr (5, [.int 0, .ref z_isArc, .ref z_reaches, .ref z_knotOf, .int 0, .ref z_aheadOf, .ref z_rows, .ref z_deep, .ref z_left, .ref z_partOf, .ref z_sideOf, .ref z_isOdd, .int 0, .ref z_row]))] s.heap.size = A at hD ⊢
  have hA : ∀ q : Nat, s.heap.size ≤ q → A q := fun q h => by rw [← hAe]; exact Or.inr h
  have hS : va_S A s.heap s.heap [] := va_S.rf
  have hP : va_P (dC, dI) classes [(qm, .inr (5, [.int 0, .ref z_isArc, .ref z_reaches, .ref z_knotOf, .int 0, .ref z_aheadOf, .ref z_rows, .ref z_deep, .ref z_left, .ref z_partOf, .ref z_sideOf, .ref z_isOdd, .int 0, .ref z_row]))] s.heap := hP
  have hl := lv_entry ([.ref qm, .int p0]) (n := 4) (Nat.le_of_ble_eq_true rfl)
  rw [lg_entry_eq]
  generalize (lg_sl ([.ref qm, .int p0]) ++ List.replicate (4 - (lg_sl ([.ref qm, .int p0])).length) Slot.unset).toArray = ls at hl ⊢
  have hl : lv_has ls 4 [(0, .ref qm), (1, .int p0)] := hl
  refine lv_aload_n hx hb d_p7_25_0 rfl (lv_at hl 0 rfl) ?_
  refine lv_iload_n hx hb d_p7_25_1 rfl (lv_at hl 1 rfl) ?_
  have hPc := hP.sub (ws' := [(qm, .inr (5, [.int 0, .ref z_isArc, .ref z_reaches, .ref z_knotOf, .int 0, .ref z_aheadOf, .ref z_rows, .ref z_deep, .ref z_left, .ref z_partOf, .ref z_sideOf, .ref z_isOdd, .int 0, .ref z_row]))]) [0] rfl
  have hDc := hD.sub (ws' := [(qm, .inr (5, [.int 0, .ref z_isArc, .ref z_reaches, .ref z_knotOf, .int 0, .ref z_aheadOf, .ref z_rows, .ref z_deep, .ref z_left, .ref z_partOf, .ref z_sideOf, .ref z_isOdd, .int 0, .ref z_row]))]) [0] (by decide) rfl
  have hKc := hK.sub (tys' := []) [] rfl
  have hFc := va_free (wc := [(qm, .inr (5, [.int 0, .ref z_isArc, .ref z_reaches, .ref z_knotOf, .int 0, .ref z_aheadOf, .ref z_rows, .ref z_deep, .ref z_left, .ref z_partOf, .ref z_sideOf, .ref z_isOdd, .int 0, .ref z_row]))]) hD hS hA [0] rfl
  refine va_calli (va_runV (As := [.int p0]) (rest := []) ⟨hx, hb, hml, hown, hts⟩ (c_M_isNode l dC dI qm z_isArc z_reaches z_knotOf z_aheadOf z_rows z_deep z_left z_partOf z_sideOf z_isOdd z_row p0 s.heap.size) (cwV 1 hts (gV gd_546 tw_543 tw_545 tw_36 tw_60) rfl rfl rfl (by decide +kernel) ⟨Nat.le_of_ble_eq_true rfl, Nat.le_of_ble_eq_true rfl⟩) ⟨cPre_blind, va_recv hKc hPc (ci := 5) (q0 := 0) rfl rfl, cPre_pre hPc hKc hDc hN⟩ rfl rfl hl.1 rfl (lv_room (Nat.le_of_ble_eq_true rfl)) d_p7_25_2 ⟨Nat.le_of_ble_eq_true rfl, Nat.le_of_ble_eq_true rfl⟩) hS (fun q _ h => hFc q h) hFc (fun r_1 u t H1 locs ht hvm hw hB hz1 hk1 hS => ?_)
  obtain ⟨hP1, hK1, hD1⟩ := hB
  rw [ht] at hP1
  obtain ⟨hP, hD⟩ := va_join (wr := []) (w1 := [(qm, .inr (5, [.int 0, .ref z_isArc, .ref z_reaches, .ref z_knotOf, .int 0, .ref z_aheadOf, .ref z_rows, .ref z_deep, .ref z_left, .ref z_partOf, .ref z_sideOf, .ref z_isOdd, .int 0, .ref z_row]))]) hP hD [0] [] rfl rfl (by decide) (by decide) hk1 hFc hP1 hD1
  generalize H1 = H at hP hS ⊢
  have hP : va_P (dC, dI) classes [(qm, .inr (5, [.int 0, .ref z_isArc, .ref z_reaches, .ref z_knotOf, .int 0, .ref z_aheadOf, .ref z_rows, .ref z_deep, .ref z_left, .ref z_partOf, .ref z_sideOf, .ref z_isOdd, .int 0, .ref z_row]))] H := hP
  have hD : va_D A [(qm, .inr (5, [.int 0, .ref z_isArc, .ref z_reaches, .ref z_knotOf, .int 0, .ref z_aheadOf, .ref z_rows, .ref z_deep, .ref z_left, .ref z_partOf, .ref z_sideOf, .ref z_isOdd, .int 0, .ref z_row]))] := hD
  obtain rfl : r_1 = (0 : Int32) := hw
  refine lv_if_ne (tgt := 11) hx hb d_p7_25_5 (by decide) (fun c => absurd c (by decide)) (fun _ => ?_)
  refine lv_bipush (v := (-2)) hx hb d_p7_25_8 (by decide) ?_
  have hP9 := hP.sub (ws' := []) [] rfl
  have hD9 := hD.sub (ws' := []) [] (by decide) rfl
  have hK9 := hK.sub (tys' := []) [] rfl
  exact W.iret (v := (-2)) hx hb hr (fun t ht hW => ⟨⟨(-2), (), rfl, rfl, cEnd_mk hP9 hK9 hD9 ht hW⟩, hS.F ht⟩) hS.2.2 d_p7_25_10

set_option maxHeartbeats 4000000 in
set_option maxRecDepth 100000 in
theorem c_M_part (l : Launch) (dC : Nat → ClassId) (dI : Nat → Nat → Nat) (qm : Nat) (z_isArc : Nat) (z_reaches : Nat) (z_knotOf : Nat) (z_aheadOf : Nat) (z_rows : Nat) (z_deep : Nat) (z_left : Nat) (z_partOf : Nat) (z_sideOf : Nat) (z_isOdd : Nat) (z_row : Nat) (p0 : Int32) (sz : Nat) : Met l ({ cls := "StrongPartsModel", name := "part", desc := "(I)I" } : Jvm.MethodName) (ww ({ cls := "StrongPartsModel", name := "part", desc := "(I)I" } : Jvm.MethodName) prog_7_method_30_code 2 (some .int)) ({ frames := 2, cells := 0, slots := 0, locals := 43 }) (va_Pc [.ref qm, .int p0] (cPre (dC, dI) [(qm, .inr (5, [.int 0, .ref z_isArc, .ref z_reaches, .ref z_knotOf, .int 0, .ref z_aheadOf, .ref z_rows, .ref z_deep, .ref z_left, .ref z_partOf, .ref z_sideOf, .ref z_isOdd, .int 0, .ref z_row]))] [] sz)) (va_Qi (fun (r : Int32) (_ : Unit) => r = (-2)) (cEnd (dC, dI) [] [] (va_A [(qm, .inr (5, [.int 0, .ref z_isArc, .ref z_reaches, .ref z_knotOf, .int 0, .ref z_aheadOf, .ref z_rows, .ref z_deep, .ref z_left, .ref z_partOf, .ref z_sideOf, .ref z_isOdd, .int 0, .ref z_row]))] sz)) (va_A [(qm, .inr (5, [.int 0, .ref z_isArc, .ref z_reaches, .ref z_knotOf, .int 0, .ref z_aheadOf, .ref z_rows, .ref z_deep, .ref z_left, .ref z_partOf, .ref z_sideOf, .ref z_isOdd, .int 0, .ref z_row]))] sz)) 0 0 (va_A [(qm, .inr (5, [.int 0, .ref z_isArc, .ref z_reaches, .ref z_knotOf, .int 0, .ref z_aheadOf, .ref z_rows, .ref z_deep, .ref z_left, .ref z_partOf, .ref z_sideOf, .ref z_isOdd, .int 0, .ref z_row]))] sz) := by
  refine Met.ofW (cc := prog_7_method_30_code) (maxL := 2) (ret := (some .int)) (by decide) rfl ?_
  intro p e s m args below meth c s₁ B hml hv
  obtain ⟨rfl, hsz, hP, hK, hD0, hN⟩ := hv
  have hx := B.exec
  have hb := B.bytes
  have hr := B.returns
  have hts := ww_hts (atoms_spec (ws := ww ({ cls := "StrongPartsModel", name := "part", desc := "(I)I" } : Jvm.MethodName) prog_7_method_30_code 2 (some .int)) B.pre)
  have hown : s.vm.findClass "StrongPartsModel" = some m.cls := findClass_of_methodNamed B.named
  have hlocks := B.notSynchronized
  subst hsz
  have hD := hD0.self (sz := s.heap.size)
  generalize hAe : va_A [(qm, .inr (5, [.int 0, .ref z_isArc, .ref z_reaches, .ref z_knotOf, .int 0, .ref z_aheadOf, .ref z_rows, .ref z_deep, .ref z_left, .ref z_partOf, .ref z_sideOf, .ref z_isOdd, .int 0, .ref z_row]))] s.heap.size = A at hD ⊢
  have hA : ∀ q : Nat, s.heap.size ≤ q → A q := fun q h => by rw [← hAe]; exact Or.inr h
  have hS : va_S A s.heap s.heap [] := va_S.rf
  have hP : va_P (dC, dI) classes [(qm, .inr (5, [.int 0, .ref z_isArc, .ref z_reaches, .ref z_knotOf, .int 0, .ref z_aheadOf, .ref z_rows, .ref z_deep, .ref z_left, .ref z_partOf, .ref z_sideOf, .ref z_isOdd, .int 0, .ref z_row]))] s.heap := hP
  have hl := lv_entry ([.ref qm, .int p0]) (n := 2) (Nat.le_of_ble_eq_true rfl)
  rw [lg_entry_eq]
  generalize (lg_sl ([.ref qm, .int p0]) ++ List.replicate (2 - (lg_sl ([.ref qm, .int p0])).length) Slot.unset).toArray = ls at hl ⊢
  have hl : lv_has ls 2 [(0, .ref qm), (1, .int p0)] := hl
  refine lv_aload_n hx hb d_p7_30_0 rfl (lv_at hl 0 rfl) ?_
  refine lv_iload_n hx hb d_p7_30_1 rfl (lv_at hl 1 rfl) ?_
  have hPc := hP.sub (ws' := [(qm, .inr (5, [.int 0, .ref z_isArc, .ref z_reaches, .ref z_knotOf, .int 0, .ref z_aheadOf, .ref z_rows, .ref z_deep, .ref z_left, .ref z_partOf, .ref z_sideOf, .ref z_isOdd, .int 0, .ref z_row]))]) [0] rfl
  have hDc := hD.sub (ws' := [(qm, .inr (5, [.int 0, .ref z_isArc, .ref z_reaches, .ref z_knotOf, .int 0, .ref z_aheadOf, .ref z_rows, .ref z_deep, .ref z_left, .ref z_partOf, .ref z_sideOf, .ref z_isOdd, .int 0, .ref z_row]))]) [0] (by decide) rfl
  have hKc := hK.sub (tys' := []) [] rfl
  have hFc := va_free (wc := [(qm, .inr (5, [.int 0, .ref z_isArc, .ref z_reaches, .ref z_knotOf, .int 0, .ref z_aheadOf, .ref z_rows, .ref z_deep, .ref z_left, .ref z_partOf, .ref z_sideOf, .ref z_isOdd, .int 0, .ref z_row]))]) hD hS hA [0] rfl
  refine va_calli (va_runV (As := [.int p0]) (rest := []) ⟨hx, hb, hml, hown, hts⟩ (c_M_isNode l dC dI qm z_isArc z_reaches z_knotOf z_aheadOf z_rows z_deep z_left z_partOf z_sideOf z_isOdd z_row p0 s.heap.size) (cwV 1 hts (gV gd_546 tw_543 tw_545 tw_36 tw_60) rfl rfl rfl (by decide +kernel) ⟨Nat.le_of_ble_eq_true rfl, Nat.le_of_ble_eq_true rfl⟩) ⟨cPre_blind, va_recv hKc hPc (ci := 5) (q0 := 0) rfl rfl, cPre_pre hPc hKc hDc hN⟩ rfl rfl hl.1 rfl (lv_room (Nat.le_of_ble_eq_true rfl)) d_p7_30_2 ⟨Nat.le_of_ble_eq_true rfl, Nat.le_of_ble_eq_true rfl⟩) hS (fun q _ h => hFc q h) hFc (fun r_1 u t H1 locs ht hvm hw hB hz1 hk1 hS => ?_)
  obtain ⟨hP1, hK1, hD1⟩ := hB
  rw [ht] at hP1
  obtain ⟨hP, hD⟩ := va_join (wr := []) (w1 := [(qm, .inr (5, [.int 0, .ref z_isArc, .ref z_reaches, .ref z_knotOf, .int 0, .ref z_aheadOf, .ref z_rows, .ref z_deep, .ref z_left, .ref z_partOf, .ref z_sideOf, .ref z_isOdd, .int 0, .ref z_row]))]) hP hD [0] [] rfl rfl (by decide) (by decide) hk1 hFc hP1 hD1
  generalize H1 = H at hP hS ⊢
  have hP : va_P (dC, dI) classes [(qm, .inr (5, [.int 0, .ref z_isArc, .ref z_reaches, .ref z_knotOf, .int 0, .ref z_aheadOf, .ref z_rows, .ref z_deep, .ref z_left, .ref z_partOf, .ref z_sideOf, .ref z_isOdd, .int 0, .ref z_row]))] H := hP
  have hD : va_D A [(qm, .inr (5, [.int 0, .ref z_isArc, .ref z_reaches, .ref z_knotOf, .int 0, .ref z_aheadOf, .ref z_rows, .ref z_deep, .ref z_left, .ref z_partOf, .ref z_sideOf, .ref z_isOdd, .int 0, .ref z_row]))] := hD
  obtain rfl : r_1 = (0 : Int32) := hw
  refine lv_if_ne (tgt := 11) hx hb d_p7_30_5 (by decide) (fun c => absurd c (by decide)) (fun _ => ?_)
  refine lv_bipush (v := (-2)) hx hb d_p7_30_8 (by decide) ?_
  have hP9 := hP.sub (ws' := []) [] rfl
  have hD9 := hD.sub (ws' := []) [] (by decide) rfl
  have hK9 := hK.sub (tys' := []) [] rfl
  exact W.iret (v := (-2)) hx hb hr (fun t ht hW => ⟨⟨(-2), (), rfl, rfl, cEnd_mk hP9 hK9 hD9 ht hW⟩, hS.F ht⟩) hS.2.2 d_p7_30_10

set_option maxHeartbeats 4000000 in
set_option maxRecDepth 100000 in
theorem c_M_side (l : Launch) (dC : Nat → ClassId) (dI : Nat → Nat → Nat) (qm : Nat) (z_isArc : Nat) (z_reaches : Nat) (z_knotOf : Nat) (z_aheadOf : Nat) (z_rows : Nat) (z_deep : Nat) (z_left : Nat) (z_partOf : Nat) (z_sideOf : Nat) (z_isOdd : Nat) (z_row : Nat) (p0 : Int32) (sz : Nat) : Met l ({ cls := "StrongPartsModel", name := "side", desc := "(I)I" } : Jvm.MethodName) (ww ({ cls := "StrongPartsModel", name := "side", desc := "(I)I" } : Jvm.MethodName) prog_7_method_31_code 2 (some .int)) ({ frames := 2, cells := 0, slots := 0, locals := 43 }) (va_Pc [.ref qm, .int p0] (cPre (dC, dI) [(qm, .inr (5, [.int 0, .ref z_isArc, .ref z_reaches, .ref z_knotOf, .int 0, .ref z_aheadOf, .ref z_rows, .ref z_deep, .ref z_left, .ref z_partOf, .ref z_sideOf, .ref z_isOdd, .int 0, .ref z_row]))] [] sz)) (va_Qi (fun (r : Int32) (_ : Unit) => r = (-2)) (cEnd (dC, dI) [] [] (va_A [(qm, .inr (5, [.int 0, .ref z_isArc, .ref z_reaches, .ref z_knotOf, .int 0, .ref z_aheadOf, .ref z_rows, .ref z_deep, .ref z_left, .ref z_partOf, .ref z_sideOf, .ref z_isOdd, .int 0, .ref z_row]))] sz)) (va_A [(qm, .inr (5, [.int 0, .ref z_isArc, .ref z_reaches, .ref z_knotOf, .int 0, .ref z_aheadOf, .ref z_rows, .ref z_deep, .ref z_left, .ref z_partOf, .ref z_sideOf, .ref z_isOdd, .int 0, .ref z_row]))] sz)) 0 0 (va_A [(qm, .inr (5, [.int 0, .ref z_isArc, .ref z_reaches, .ref z_knotOf, .int 0, .ref z_aheadOf, .ref z_rows, .ref z_deep, .ref z_left, .ref z_partOf, .ref z_sideOf, .ref z_isOdd, .int 0, .ref z_row]))] sz) := by
  refine Met.ofW (cc := prog_7_method_31_code) (maxL := 2) (ret := (some .int)) (by decide) rfl ?_
  intro p e s m args below meth c s₁ B hml hv
  obtain ⟨rfl, hsz, hP, hK, hD0, hN⟩ := hv
  have hx := B.exec
  have hb := B.bytes
  have hr := B.returns
  have hts := ww_hts (atoms_spec (ws := ww ({ cls := "StrongPartsModel", name := "side", desc := "(I)I" } : Jvm.MethodName) prog_7_method_31_code 2 (some .int)) B.pre)
  have hown : s.vm.findClass "StrongPartsModel" = some m.cls := findClass_of_methodNamed B.named
  have hlocks := B.notSynchronized
  subst hsz
  have hD := hD0.self (sz := s.heap.size)
  generalize hAe : va_A [(qm, .inr (5, [.int 0, .ref z_isArc, .ref z_reaches, .ref z_knotOf, .int 0, .ref z_aheadOf, .ref z_rows, .ref z_deep, .ref z_left, .ref z_partOf, .ref z_sideOf, .ref z_isOdd, .int 0, .ref z_row]))] s.heap.size = A at hD ⊢
  have hA : ∀ q : Nat, s.heap.size ≤ q → A q := fun q h => by rw [← hAe]; exact Or.inr h
  have hS : va_S A s.heap s.heap [] := va_S.rf
  have hP : va_P (dC, dI) classes [(qm, .inr (5, [.int 0, .ref z_isArc, .ref z_reaches, .ref z_knotOf, .int 0, .ref z_aheadOf, .ref z_rows, .ref z_deep, .ref z_left, .ref z_partOf, .ref z_sideOf, .ref z_isOdd, .int 0, .ref z_row]))] s.heap := hP
  have hl := lv_entry ([.ref qm, .int p0]) (n := 2) (Nat.le_of_ble_eq_true rfl)
  rw [lg_entry_eq]
  generalize (lg_sl ([.ref qm, .int p0]) ++ List.replicate (2 - (lg_sl ([.ref qm, .int p0])).length) Slot.unset).toArray = ls at hl ⊢
  have hl : lv_has ls 2 [(0, .ref qm), (1, .int p0)] := hl
  refine lv_aload_n hx hb d_p7_31_0 rfl (lv_at hl 0 rfl) ?_
  refine lv_iload_n hx hb d_p7_31_1 rfl (lv_at hl 1 rfl) ?_
  have hPc := hP.sub (ws' := [(qm, .inr (5, [.int 0, .ref z_isArc, .ref z_reaches, .ref z_knotOf, .int 0, .ref z_aheadOf, .ref z_rows, .ref z_deep, .ref z_left, .ref z_partOf, .ref z_sideOf, .ref z_isOdd, .int 0, .ref z_row]))]) [0] rfl
  have hDc := hD.sub (ws' := [(qm, .inr (5, [.int 0, .ref z_isArc, .ref z_reaches, .ref z_knotOf, .int 0, .ref z_aheadOf, .ref z_rows, .ref z_deep, .ref z_left, .ref z_partOf, .ref z_sideOf, .ref z_isOdd, .int 0, .ref z_row]))]) [0] (by decide) rfl
  have hKc := hK.sub (tys' := []) [] rfl
  have hFc := va_free (wc := [(qm, .inr (5, [.int 0, .ref z_isArc, .ref z_reaches, .ref z_knotOf, .int 0, .ref z_aheadOf, .ref z_rows, .ref z_deep, .ref z_left, .ref z_partOf, .ref z_sideOf, .ref z_isOdd, .int 0, .ref z_row]))]) hD hS hA [0] rfl
  refine va_calli (va_runV (As := [.int p0]) (rest := []) ⟨hx, hb, hml, hown, hts⟩ (c_M_isNode l dC dI qm z_isArc z_reaches z_knotOf z_aheadOf z_rows z_deep z_left z_partOf z_sideOf z_isOdd z_row p0 s.heap.size) (cwV 1 hts (gV gd_546 tw_543 tw_545 tw_36 tw_60) rfl rfl rfl (by decide +kernel) ⟨Nat.le_of_ble_eq_true rfl, Nat.le_of_ble_eq_true rfl⟩) ⟨cPre_blind, va_recv hKc hPc (ci := 5) (q0 := 0) rfl rfl, cPre_pre hPc hKc hDc hN⟩ rfl rfl hl.1 rfl (lv_room (Nat.le_of_ble_eq_true rfl)) d_p7_31_2 ⟨Nat.le_of_ble_eq_true rfl, Nat.le_of_ble_eq_true rfl⟩) hS (fun q _ h => hFc q h) hFc (fun r_1 u t H1 locs ht hvm hw hB hz1 hk1 hS => ?_)
  obtain ⟨hP1, hK1, hD1⟩ := hB
  rw [ht] at hP1
  obtain ⟨hP, hD⟩ := va_join (wr := []) (w1 := [(qm, .inr (5, [.int 0, .ref z_isArc, .ref z_reaches, .ref z_knotOf, .int 0, .ref z_aheadOf, .ref z_rows, .ref z_deep, .ref z_left, .ref z_partOf, .ref z_sideOf, .ref z_isOdd, .int 0, .ref z_row]))]) hP hD [0] [] rfl rfl (by decide) (by decide) hk1 hFc hP1 hD1
  generalize H1 = H at hP hS ⊢
  have hP : va_P (dC, dI) classes [(qm, .inr (5, [.int 0, .ref z_isArc, .ref z_reaches, .ref z_knotOf, .int 0, .ref z_aheadOf, .ref z_rows, .ref z_deep, .ref z_left, .ref z_partOf, .ref z_sideOf, .ref z_isOdd, .int 0, .ref z_row]))] H := hP
  have hD : va_D A [(qm, .inr (5, [.int 0, .ref z_isArc, .ref z_reaches, .ref z_knotOf, .int 0, .ref z_aheadOf, .ref z_rows, .ref z_deep, .ref z_left, .ref z_partOf, .ref z_sideOf, .ref z_isOdd, .int 0, .ref z_row]))] := hD
  obtain rfl : r_1 = (0 : Int32) := hw
  refine lv_if_ne (tgt := 11) hx hb d_p7_31_5 (by decide) (fun c => absurd c (by decide)) (fun _ => ?_)
  refine lv_bipush (v := (-2)) hx hb d_p7_31_8 (by decide) ?_
  have hP9 := hP.sub (ws' := []) [] rfl
  have hD9 := hD.sub (ws' := []) [] (by decide) rfl
  have hK9 := hK.sub (tys' := []) [] rfl
  exact W.iret (v := (-2)) hx hb hr (fun t ht hW => ⟨⟨(-2), (), rfl, rfl, cEnd_mk hP9 hK9 hD9 ht hW⟩, hS.F ht⟩) hS.2.2 d_p7_31_10
