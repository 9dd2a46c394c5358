set_option maxHeartbeats 4000000 in
set_option maxRecDepth 100000 in
theorem c_M_node (l : Launch) (dC : Nat → ClassId) (dI : Nat → Nat → Nat) (qm : Nat) (z_isArc : Nat) (z_reaches : Nat) (z_knotOf : Nat) (z_aheadOf : Nat) (z_rows : Nat) (z_deep : Nat) (z_left : Nat) (z_partOf : Nat) (z_sideOf : Nat) (z_isOdd : Nat) (z_row : Nat) (kz_isArc : ClassId) (fz_isArc : Nat → Int32) (sz : Nat) : Met l ({ cls := "StrongPartsModel", name := "node", desc := "()I" } : Jvm.MethodName) (ww ({ cls := "StrongPartsModel", name := "node", desc := "()I" } : Jvm.MethodName) prog_7_method_6_code 2 (some .int)) ({ frames := 0, cells := 0, slots := 0, locals := 0 }) (va_Pc [.ref qm] (cPre (dC, dI) [(qm, .inr (5, [.int 0, .ref z_isArc, .ref z_reaches, .ref z_knotOf, .int 0, .ref z_aheadOf, .ref z_rows, .ref z_deep, .ref z_left, .ref z_partOf, .ref z_sideOf, .ref z_isOdd, .int 0, .ref z_row])), (z_isArc, .inl (kz_isArc, 196, .inl fz_isArc))] [(kz_isArc, .boolean)] sz)) (va_Qi (fun (r : Int32) (_ : Unit) => r = 0) (cEnd (dC, dI) [] [] (va_A [(qm, .inr (5, [.int 0, .ref z_isArc, .ref z_reaches, .ref z_knotOf, .int 0, .ref z_aheadOf, .ref z_rows, .ref z_deep, .ref z_left, .ref z_partOf, .ref z_sideOf, .ref z_isOdd, .int 0, .ref z_row])), (z_isArc, .inl (kz_isArc, 196, .inl fz_isArc))] sz)) (va_A [(qm, .inr (5, [.int 0, .ref z_isArc, .ref z_reaches, .ref z_knotOf, .int 0, .ref z_aheadOf, .ref z_rows, .ref z_deep, .ref z_left, .ref z_partOf, .ref z_sideOf, .ref z_isOdd, .int 0, .ref z_row])), (z_isArc, .inl (kz_isArc, 196, .inl fz_isArc))] sz)) 0 0 (va_A [(qm, .inr (5, [.int 0, .ref z_isArc, .ref z_reaches, .ref z_knotOf, .int 0, .ref z_aheadOf, .ref z_rows, .ref z_deep, .ref z_left, .ref z_partOf, .ref z_sideOf, .ref z_isOdd, .int 0, .ref z_row])), (z_isArc, .inl (kz_isArc, 196, .inl fz_isArc))] sz) := by
  refine Met.ofW (cc := prog_7_method_6_code) (maxL := 2) (ret := (some .int)) (by decide) rfl ?_
  intro p e s m args below meth c s₁ B hml hv
  obtain ⟨rfl, hsz, hP, hK, hD0, hN⟩ := hv
  have hx := B.exec
  have hb := B.bytes
  have hr := B.returns
  have hts := ww_hts (atoms_spec (ws := ww ({ cls := "StrongPartsModel", name := "node", desc := "()I" } : Jvm.MethodName) prog_7_method_6_code 2 (some .int)) B.pre)
  have hown : s.vm.findClass "StrongPartsModel" = some m.cls := findClass_of_methodNamed B.named
  have hlocks := B.notSynchronized
  subst hsz
  have hD := hD0.self (sz := s.heap.size)
  generalize hAe : va_A [(qm, .inr (5, [.int 0, .ref z_isArc, .ref z_reaches, .ref z_knotOf, .int 0, .ref z_aheadOf, .ref z_rows, .ref z_deep, .ref z_left, .ref z_partOf, .ref z_sideOf, .ref z_isOdd, .int 0, .ref z_row])), (z_isArc, .inl (kz_isArc, 196, .inl fz_isArc))] s.heap.size = A at hD ⊢
  have hA : ∀ q : Nat, s.heap.size ≤ q → A q := fun q h => by rw [← hAe]; exact Or.inr h
  have hS : va_S A s.heap s.heap [] := va_S.rf
  have hP : va_P (dC, dI) classes [(qm, .inr (5, [.int 0, .ref z_isArc, .ref z_reaches, .ref z_knotOf, .int 0, .ref z_aheadOf, .ref z_rows, .ref z_deep, .ref z_left, .ref z_partOf, .ref z_sideOf, .ref z_isOdd, .int 0, .ref z_row])), (z_isArc, .inl (kz_isArc, 196, .inl fz_isArc))] s.heap := hP
  have hl := lv_entry ([.ref qm]) (n := 2) (Nat.le_of_ble_eq_true rfl)
  rw [lg_entry_eq]
  generalize (lg_sl ([.ref qm]) ++ List.replicate (2 - (lg_sl ([.ref qm])).length) Slot.unset).toArray = ls at hl ⊢
  have hl : lv_has ls 2 [(0, .ref qm)] := hl
  refine lv_aload_n hx hb d_p7_6_0 rfl (lv_at hl 0 rfl) ?_
  refine va_get (D := (dC, dI)) (ci := 5) (v := .int 0) (C := "StrongPartsModel") (T := T_5) (N := 14) hx hb hts in_5 hown hK hP 0 rfl rfl 0 (by decide) (hts _ tw_487) (fun _ h9 => h9) rfl d_p7_6_1 ?_
  refine lv_bipush (v := 14) hx hb d_p7_6_4 (by decide) ?_
  refine lv_icmp_ne (tgt := 12) hx hb d_p7_6_6 (by decide) (fun _ => ?_) (fun c => absurd c (by decide))
  refine lv_iconst (v := 0) hx hb d_p7_6_12 (by decide) ?_
  refine lv_istore_n (lv' := [(1, .int 0), (0, .ref qm)]) hx hb d_p7_6_13 rfl hl (by decide) rfl (fun ls hl => ?_)
  refine lv_iload_n hx hb d_p7_6_14 rfl (lv_at hl 0 rfl) ?_
  refine lv_bipush (v := 14) hx hb d_p7_6_15 (by decide) ?_
  refine lv_icmp_ge (tgt := 56) hx hb d_p7_6_17 (by decide) (fun c => absurd c (by decide)) (fun _ => ?_)
  refine lv_aload_n hx hb d_p7_6_20 rfl (lv_at hl 1 rfl) ?_
  refine va_get (D := (dC, dI)) (ci := 5) (v := .ref z_isArc) (C := "StrongPartsModel") (T := T_5) (N := 14) hx hb hts in_5 hown hK hP 0 rfl rfl 1 (by decide) (hts _ tw_488) (fun _ h9 => h9) rfl d_p7_6_21 ?_
  refine lv_bipush (v := 14) hx hb d_p7_6_24 (by decide) ?_
  refine lv_aload_n hx hb d_p7_6_26 rfl (lv_at hl 1 rfl) ?_
  refine va_get (D := (dC, dI)) (ci := 5) (v := .int 0) (C := "StrongPartsModel") (T := T_5) (N := 14) hx hb hts in_5 hown hK hP 0 rfl rfl 0 (by decide) (hts _ tw_487) (fun _ h9 => h9) rfl d_p7_6_27 ?_
  refine lv_imul hx hb d_p7_6_30 ?_
  refine lv_topi (fun z_1 ez_1 => ?_)
  obtain rfl : z_1 = (0 : Int32) := ez_1.trans (by decide)
  refine lv_iload_n hx hb d_p7_6_31 rfl (lv_at hl 0 rfl) ?_
  refine lv_iadd hx hb d_p7_6_32 ?_
  refine lv_topi (fun z_2 ez_2 => ?_)
  obtain rfl : z_2 = (0 : Int32) := ez_2.trans (by decide)
  refine lv_iconst (v := 0) hx hb d_p7_6_33 (by decide) ?_
  refine va_zast hx hb hK hP hD hS 1 0 rfl rfl (i := 0) (by unfold vp_in; decide) d_p7_6_34 (fun H locs hP hD hS => ?_)
  have hP : va_P (dC, dI) classes [(qm, .inr (5, [.int 0, .ref z_isArc, .ref z_reaches, .ref z_knotOf, .int 0, .ref z_aheadOf, .ref z_rows, .ref z_deep, .ref z_left, .ref z_partOf, .ref z_sideOf, .ref z_isOdd, .int 0, .ref z_row])), (z_isArc, .inl (kz_isArc, 196, .inl (upd fz_isArc (Int32.toNatClampNeg 0) (vp_nar .boolean 0))))] H := hP
  have hD : va_D A [(qm, .inr (5, [.int 0, .ref z_isArc, .ref z_reaches, .ref z_knotOf, .int 0, .ref z_aheadOf, .ref z_rows, .ref z_deep, .ref z_left, .ref z_partOf, .ref z_sideOf, .ref z_isOdd, .int 0, .ref z_row])), (z_isArc, .inl (kz_isArc, 196, .inl (upd fz_isArc (Int32.toNatClampNeg 0) (vp_nar .boolean 0))))] := hD
  generalize (upd fz_isArc (Int32.toNatClampNeg 0) (vp_nar .boolean 0)) = g_3 at hP hD
  refine lv_aload_n hx hb d_p7_6_35 rfl (lv_at hl 1 rfl) ?_
  refine va_get (D := (dC, dI)) (ci := 5) (v := .ref z_isArc) (C := "StrongPartsModel") (T := T_5) (N := 14) hx hb hts in_5 hown hK hP 0 rfl rfl 1 (by decide) (hts _ tw_488) (fun _ h9 => h9) rfl d_p7_6_36 ?_
  refine lv_bipush (v := 14) hx hb d_p7_6_39 (by decide) ?_
  refine lv_iload_n hx hb d_p7_6_41 rfl (lv_at hl 0 rfl) ?_
  refine lv_imul hx hb d_p7_6_42 ?_
  refine lv_topi (fun z_4 ez_4 => ?_)
  obtain rfl : z_4 = (0 : Int32) := ez_4.trans (by decide)
  refine lv_aload_n hx hb d_p7_6_43 rfl (lv_at hl 1 rfl) ?_
  refine va_get (D := (dC, dI)) (ci := 5) (v := .int 0) (C := "StrongPartsModel") (T := T_5) (N := 14) hx hb hts in_5 hown hK hP 0 rfl rfl 0 (by decide) (hts _ tw_487) (fun _ h9 => h9) rfl d_p7_6_44 ?_
  refine lv_iadd hx hb d_p7_6_47 ?_
  refine lv_topi (fun z_5 ez_5 => ?_)
  obtain rfl : z_5 = (0 : Int32) := ez_5.trans (by decide)
  refine lv_iconst (v := 0) hx hb d_p7_6_48 (by decide) ?_
  refine va_zast hx hb hK hP hD hS 1 0 rfl rfl (i := 0) (by unfold vp_in; decide) d_p7_6_49 (fun H locs hP hD hS => ?_)
  have hP : va_P (dC, dI) classes [(qm, .inr (5, [.int 0, .ref z_isArc, .ref z_reaches, .ref z_knotOf, .int 0, .ref z_aheadOf, .ref z_rows, .ref z_deep, .ref z_left, .ref z_partOf, .ref z_sideOf, .ref z_isOdd, .int 0, .ref z_row])), (z_isArc, .inl (kz_isArc, 196, .inl (upd g_3 (Int32.toNatClampNeg 0) (vp_nar .boolean 0))))] H := hP
  have hD : va_D A [(qm, .inr (5, [.int 0, .ref z_isArc, .ref z_reaches, .ref z_knotOf, .int 0, .ref z_aheadOf, .ref z_rows, .ref z_deep, .ref z_left, .ref z_partOf, .ref z_sideOf, .ref z_isOdd, .int 0, .ref z_row])), (z_isArc, .inl (kz_isArc, 196, .inl (upd g_3 (Int32.toNatClampNeg 0) (vp_nar .boolean 0))))] := hD
  generalize (upd g_3 (Int32.toNatClampNeg 0) (vp_nar .boolean 0)) = g_6 at hP hD
  refine lv_iinc (v := 1) (lv' := [(1, .int 1), (0, .ref qm)]) hx hb d_p7_6_50 hl (k := 0) rfl (by decide) (by decide) rfl (fun ls hl => ?_)
  refine lv_goto (tgt := 14) hx hb d_p7_6_53 (by decide) ?_
  refine lv_iload_n hx hb d_p7_6_14 rfl (lv_at hl 0 rfl) ?_
  refine lv_bipush (v := 14) hx hb d_p7_6_15 (by decide) ?_
  refine lv_icmp_ge (tgt := 56) hx hb d_p7_6_17 (by decide) (fun c => absurd c (by decide)) (fun _ => ?_)
  refine lv_aload_n hx hb d_p7_6_20 rfl (lv_at hl 1 rfl) ?_
  refine va_get (D := (dC, dI)) (ci := 5) (v := .ref z_isArc) (C := "StrongPartsModel") (T := T_5) (N := 14) hx hb hts in_5 hown hK hP 0 rfl rfl 1 (by decide) (hts _ tw_488) (fun _ h9 => h9) rfl d_p7_6_21 ?_
  refine lv_bipush (v := 14) hx hb d_p7_6_24 (by decide) ?_
  refine lv_aload_n hx hb d_p7_6_26 rfl (lv_at hl 1 rfl) ?_
  refine va_get (D := (dC, dI)) (ci := 5) (v := .int 0) (C := "StrongPartsModel") (T := T_5) (N := 14) hx hb hts in_5 hown hK hP 0 rfl rfl 0 (by decide) (hts _ tw_487) (fun _ h9 => h9) rfl d_p7_6_27 ?_
  refine lv_imul hx hb d_p7_6_30 ?_
  refine lv_topi (fun z_7 ez_7 => ?_)
  obtain rfl : z_7 = (0 : Int32) := ez_7.trans (by decide)
  refine lv_iload_n hx hb d_p7_6_31 rfl (lv_at hl 0 rfl) ?_
  refine lv_iadd hx hb d_p7_6_32 ?_
  refine lv_topi (fun z_8 ez_8 => ?_)
  obtain rfl : z_8 = (1 : Int32) := ez_8.trans (by decide)
  refine lv_iconst (v := 0) hx hb d_p7_6_33 (by decide) ?_
  refine va_zast hx hb hK hP hD hS 1 0 rfl rfl (i := 1) (by unfold vp_in; decide) d_p7_6_34 (fun H locs hP hD hS => ?_)
  have hP : va_P (dC, dI) classes [(qm, .inr (5, [.int 0, .ref z_isArc, .ref z_reaches, .ref z_knotOf, .int 0, .ref z_aheadOf, .ref z_rows, .ref z_deep, .ref z_left, .ref z_partOf, .ref z_sideOf, .ref z_isOdd, .int 0, .ref z_row])), (z_isArc, .inl (kz_isArc, 196, .inl (upd g_6 (Int32.toNatClampNeg 1) (vp_nar .boolean 0))))] H := hP
  have hD : va_D A [(qm, .inr (5, [.int 0, .ref z_isArc, .ref z_reaches, .ref z_knotOf, .int 0, .ref z_aheadOf, .ref z_rows, .ref z_deep, .ref z_left, .ref z_partOf, .ref z_sideOf, .ref z_isOdd, .int 0, .ref z_row])), (z_isArc, .inl (kz_isArc, 196, .inl (upd g_6 (Int32.toNatClampNeg 1) (vp_nar .boolean 0))))] := hD
  generalize (upd g_6 (Int32.toNatClampNeg 1) (vp_nar .boolean 0)) = g_9 at hP hD
  refine lv_aload_n hx hb d_p7_6_35 rfl (lv_at hl 1 rfl) ?_
  refine va_get (D := (dC, dI)) (ci := 5) (v := .ref z_isArc) (C := "StrongPartsModel") (T := T_5) (N := 14) hx hb hts in_5 hown hK hP 0 rfl rfl 1 (by decide) (hts _ tw_488) (fun _ h9 => h9) rfl d_p7_6_36 ?_
  refine lv_bipush (v := 14) hx hb d_p7_6_39 (by decide) ?_
  refine lv_iload_n hx hb d_p7_6_41 rfl (lv_at hl 0 rfl) ?_
  refine lv_imul hx hb d_p7_6_42 ?_
  refine lv_topi (fun z_10 ez_10 => ?_)
  obtain rfl : z_10 = (14 : Int32) := ez_10.trans (by decide)
  refine lv_aload_n hx hb d_p7_6_43 rfl (lv_at hl 1 rfl) ?_
  refine va_get (D := (dC, dI)) (ci := 5) (v := .int 0) (C := "StrongPartsModel") (T := T_5) (N := 14) hx hb hts in_5 hown hK hP 0 rfl rfl 0 (by decide) (hts _ tw_487) (fun _ h9 => h9) rfl d_p7_6_44 ?_
  refine lv_iadd hx hb d_p7_6_47 ?_
  refine lv_topi (fun z_11 ez_11 => ?_)
  obtain rfl : z_11 = (14 : Int32) := ez_11.trans (by decide)
  refine lv_iconst (v := 0) hx hb d_p7_6_48 (by decide) ?_
  refine va_zast hx hb hK hP hD hS 1 0 rfl rfl (i := 14) (by unfold vp_in; decide) d_p7_6_49 (fun H locs hP hD hS => ?_)
  have hP : va_P (dC, dI) classes [(qm, .inr (5, [.int 0, .ref z_isArc, .ref z_reaches, .ref z_knotOf, .int 0, .ref z_aheadOf, .ref z_rows, .ref z_deep, .ref z_left, .ref z_partOf, .ref z_sideOf, .ref z_isOdd, .int 0, .ref z_row])), (z_isArc, .inl (kz_isArc, 196, .inl (upd g_9 (Int32.toNatClampNeg 14) (vp_nar .boolean 0))))] H := hP
  have hD : va_D A [(qm, .inr (5, [.int 0, .ref z_isArc, .ref z_reaches, .ref z_knotOf, .int 0, .ref z_aheadOf, .ref z_rows, .ref z_deep, .ref z_left, .ref z_partOf, .ref z_sideOf, .ref z_isOdd, .int 0, .ref z_row])), (z_isArc, .inl (kz_isArc, 196, .inl (upd g_9 (Int32.toNatClampNeg 14) (vp_nar .boolean 0))))] := hD
  generalize (upd g_9 (Int32.toNatClampNeg 14) (vp_nar .boolean 0)) = g_12 at hP hD
  refine lv_iinc (v := 2) (lv' := [(1, .int 2), (0, .ref qm)]) hx hb d_p7_6_50 hl (k := 0) rfl (by decide) (by decide) rfl (fun ls hl => ?_)
  refine lv_goto (tgt := 14) hx hb d_p7_6_53 (by decide) ?_
  refine lv_iload_n hx hb d_p7_6_14 rfl (lv_at hl 0 rfl) ?_
  refine lv_bipush (v := 14) hx hb d_p7_6_15 (by decide) ?_
  refine lv_icmp_ge (tgt := 56) hx hb d_p7_6_17 (by decide) (fun c => absurd c (by decide)) (fun _ => ?_)
  refine lv_aload_n hx hb d_p7_6_20 rfl (lv_at hl 1 rfl) ?_
  refine va_get (D := (dC, dI)) (ci := 5) (v := .ref z_isArc) (C := "StrongPartsModel") (T := T_5) (N := 14) hx hb hts in_5 hown hK hP 0 rfl rfl 1 (by decide) (hts _ tw_488) (fun _ h9 => h9) rfl d_p7_6_21 ?_
  refine lv_bipush (v := 14) hx hb d_p7_6_24 (by decide) ?_
  refine lv_aload_n hx hb d_p7_6_26 rfl (lv_at hl 1 rfl) ?_
  refine va_get (D := (dC, dI)) (ci := 5) (v := .int 0) (C := "StrongPartsModel") (T := T_5) (N := 14) hx hb hts in_5 hown hK hP 0 rfl rfl 0 (by decide) (hts _ tw_487) (fun _ h9 => h9) rfl d_p7_6_27 ?_
  refine lv_imul hx hb d_p7_6_30 ?_
  refine lv_topi (fun z_13 ez_13 => ?_)
  obtain rfl : z_13 = (0 : Int32) := ez_13.trans (by decide)
  refine lv_iload_n hx hb d_p7_6_31 rfl (lv_at hl 0 rfl) ?_
  refine lv_iadd hx hb d_p7_6_32 ?_
  refine lv_topi (fun z_14 ez_14 => ?_)
  obtain rfl : z_14 = (2 : Int32) := ez_14.trans (by decide)
  refine lv_iconst (v := 0) hx hb d_p7_6_33 (by decide) ?_
  refine va_zast hx hb hK hP hD hS 1 0 rfl rfl (i := 2) (by unfold vp_in; decide) d_p7_6_34 (fun H locs hP hD hS => ?_)
  have hP : va_P (dC, dI) classes [(qm, .inr (5, [.int 0, .ref z_isArc, .ref z_reaches, .ref z_knotOf, .int 0, .ref z_aheadOf, .ref z_rows, .ref z_deep, .ref z_left, .ref z_partOf, .ref z_sideOf, .ref z_isOdd, .int 0, .ref z_row])), (z_isArc, .inl (kz_isArc, 196, .inl (upd g_12 (Int32.toNatClampNeg 2) (vp_nar .boolean 0))))] H := hP
  have hD : va_D A [(qm, .inr (5, [.int 0, .ref z_isArc, .ref z_reaches, .ref z_knotOf, .int 0, .ref z_aheadOf, .ref z_rows, .ref z_deep, .ref z_left, .ref z_partOf, .ref z_sideOf, .ref z_isOdd, .int 0, .ref z_row])), (z_isArc, .inl (kz_isArc, 196, .inl (upd g_12 (Int32.toNatClampNeg 2) (vp_nar .boolean 0))))] := hD
  generalize (upd g_12 (Int32.toNatClampNeg 2) (vp_nar .boolean 0)) = g_15 at hP hD
  refine lv_aload_n hx hb d_p7_6_35 rfl (lv_at hl 1 rfl) ?_
  refine va_get (D := (dC, dI)) (ci := 5) (v := .ref z_isArc) (C := "StrongPartsModel") (T := T_5) (N := 14) hx hb hts in_5 hown hK hP 0 rfl rfl 1 (by decide) (hts _ tw_488) (fun _ h9 => h9) rfl d_p7_6_36 ?_
  refine lv_bipush (v := 14) hx hb d_p7_6_39 (by decide) ?_
  refine lv_iload_n hx hb d_p7_6_41 rfl (lv_at hl 0 rfl) ?_
  refine lv_imul hx hb d_p7_6_42 ?_
  refine lv_topi (fun z_16 ez_16 => ?_)
  obtain rfl : z_16 = (28 : Int32) := ez_16.trans (by decide)
  refine lv_aload_n hx hb d_p7_6_43 rfl (lv_at hl 1 rfl) ?_
  refine va_get (D := (dC, dI)) (ci := 5) (v := .int 0) (C := "StrongPartsModel") (T := T_5) (N := 14) hx hb hts in_5 hown hK hP 0 rfl rfl 0 (by decide) (hts _ tw_487) (fun _ h9 => h9) rfl d_p7_6_44 ?_
  refine lv_iadd hx hb d_p7_6_47 ?_
  refine lv_topi (fun z_17 ez_17 => ?_)
  obtain rfl : z_17 = (28 : Int32) := ez_17.trans (by decide)
  refine lv_iconst (v := 0) hx hb d_p7_6_48 (by decide) ?_
  refine va_zast hx hb hK hP hD hS 1 0 rfl rfl (i := 28) (by unfold vp_in; decide) d_p7_6_49 (fun H locs hP hD hS => ?_)
  have hP : va_P (dC, dI) classes [(qm, .inr (5, [.int 0, .ref z_isArc, .ref z_reaches, .ref z_knotOf, .int 0, .ref z_aheadOf, .ref z_rows, .ref z_deep, .ref z_left, .ref z_partOf, .ref z_sideOf, .ref z_isOdd, .int 0, .ref z_row])), (z_isArc, .inl (kz_isArc, 196, .inl (upd g_15 (Int32.toNatClampNeg 28) (vp_nar .boolean 0))))] H := hP
  have hD : va_D A [(qm, .inr (5, [.int 0, .ref z_isArc, .ref z_reaches, .ref z_knotOf, .int 0, .ref z_aheadOf, .ref z_rows, .ref z_deep, .ref z_left, .ref z_partOf, .ref z_sideOf, .ref z_isOdd, .int 0, .ref z_row])), (z_isArc, .inl (kz_isArc, 196, .inl (upd g_15 (Int32.toNatClampNeg 28) (vp_nar .boolean 0))))] := hD
  generalize (upd g_15 (Int32.toNatClampNeg 28) (vp_nar .boolean 0)) = g_18 at hP hD
  refine lv_iinc (v := 3) (lv' := [(1, .int 3), (0, .ref qm)]) hx hb d_p7_6_50 hl (k := 0) rfl (by decide) (by decide) rfl (fun ls hl => ?_)
  refine lv_goto (tgt := 14) hx hb d_p7_6_53 (by decide) ?_
  refine lv_iload_n hx hb d_p7_6_14 rfl (lv_at hl 0 rfl) ?_
  refine lv_bipush (v := 14) hx hb d_p7_6_15 (by decide) ?_
  refine lv_icmp_ge (tgt := 56) hx hb d_p7_6_17 (by decide) (fun c => absurd c (by decide)) (fun _ => ?_)
  refine lv_aload_n hx hb d_p7_6_20 rfl (lv_at hl 1 rfl) ?_
  refine va_get (D := (dC, dI)) (ci := 5) (v := .ref z_isArc) (C := "StrongPartsModel") (T := T_5) (N := 14) hx hb hts in_5 hown hK hP 0 rfl rfl 1 (by decide) (hts _ tw_488) (fun _ h9 => h9) rfl d_p7_6_21 ?_
  refine lv_bipush (v := 14) hx hb d_p7_6_24 (by decide) ?_
  refine lv_aload_n hx hb d_p7_6_26 rfl (lv_at hl 1 rfl) ?_
  refine va_get (D := (dC, dI)) (ci := 5) (v := .int 0) (C := "StrongPartsModel") (T := T_5) (N := 14) hx hb hts in_5 hown hK hP 0 rfl rfl 0 (by decide) (hts _ tw_487) (fun _ h9 => h9) rfl d_p7_6_27 ?_
  refine lv_imul hx hb d_p7_6_30 ?_
  refine lv_topi (fun z_19 ez_19 => ?_)
  obtain rfl : z_19 = (0 : Int32) := ez_19.trans (by decide)
  refine lv_iload_n hx hb d_p7_6_31 rfl (lv_at hl 0 rfl) ?_
  refine lv_iadd hx hb d_p7_6_32 ?_
  refine lv_topi (fun z_20 ez_20 => ?_)
  obtain rfl : z_20 = (3 : Int32) := ez_20.trans (by decide)
  refine lv_iconst (v := 0) hx hb d_p7_6_33 (by decide) ?_
  refine va_zast hx hb hK hP hD hS 1 0 rfl rfl (i := 3) (by unfold vp_in; decide) d_p7_6_34 (fun H locs hP hD hS => ?_)
  have hP : va_P (dC, dI) classes [(qm, .inr (5, [.int 0, .ref z_isArc, .ref z_reaches, .ref z_knotOf, .int 0, .ref z_aheadOf, .ref z_rows, .ref z_deep, .ref z_left, .ref z_partOf, .ref z_sideOf, .ref z_isOdd, .int 0, .ref z_row])), (z_isArc, .inl (kz_isArc, 196, .inl (upd g_18 (Int32.toNatClampNeg 3) (vp_nar .boolean 0))))] H := hP
  have hD : va_D A [(qm, .inr (5, [.int 0, .ref z_isArc, .ref z_reaches, .ref z_knotOf, .int 0, .ref z_aheadOf, .ref z_rows, .ref z_deep, .ref z_left, .ref z_partOf, .ref z_sideOf, .ref z_isOdd, .int 0, .ref z_row])), (z_isArc, .inl (kz_isArc, 196, .inl (upd g_18 (Int32.toNatClampNeg 3) (vp_nar .boolean 0))))] := hD
  generalize (upd g_18 (Int32.toNatClampNeg 3) (vp_nar .boolean 0)) = g_21 at hP hD
  refine lv_aload_n hx hb d_p7_6_35 rfl (lv_at hl 1 rfl) ?_
  refine va_get (D := (dC, dI)) (ci := 5) (v := .ref z_isArc) (C := "StrongPartsModel") (T := T_5) (N := 14) hx hb hts in_5 hown hK hP 0 rfl rfl 1 (by decide) (hts _ tw_488) (fun _ h9 => h9) rfl d_p7_6_36 ?_
  refine lv_bipush (v := 14) hx hb d_p7_6_39 (by decide) ?_
  refine lv_iload_n hx hb d_p7_6_41 rfl (lv_at hl 0 rfl) ?_
  refine lv_imul hx hb d_p7_6_42 ?_
  refine lv_topi (fun z_22 ez_22 => ?_)
  obtain rfl : z_22 = (42 : Int32) := ez_22.trans (by decide)
  refine lv_aload_n hx hb d_p7_6_43 rfl (lv_at hl 1 rfl) ?_
  refine va_get (D := (dC, dI)) (ci := 5) (v := .int 0) (C := "StrongPartsModel") (T := T_5) (N := 14) hx hb hts in_5 hown hK hP 0 rfl rfl 0 (by decide) (hts _ tw_487) (fun _ h9 => h9) rfl d_p7_6_44 ?_
  refine lv_iadd hx hb d_p7_6_47 ?_
  refine lv_topi (fun z_23 ez_23 => ?_)
  obtain rfl : z_23 = (42 : Int32) := ez_23.trans (by decide)
  refine lv_iconst (v := 0) hx hb d_p7_6_48 (by decide) ?_
  refine va_zast hx hb hK hP hD hS 1 0 rfl rfl (i := 42) (by unfold vp_in; decide) d_p7_6_49 (fun H locs hP hD hS => ?_)
  have hP : va_P (dC, dI) classes [(qm, .inr (5, [.int 0, .ref z_isArc, .ref z_reaches, .ref z_knotOf, .int 0, .ref z_aheadOf, .ref z_rows, .ref z_deep, .ref z_left, .ref z_partOf, .ref z_sideOf, .ref z_isOdd, .int 0, .ref z_row])), (z_isArc, .inl (kz_isArc, 196, .inl (upd g_21 (Int32.toNatClampNeg 42) (vp_nar .boolean 0))))] H := hP
  have hD : va_D A [(qm, .inr (5, [.int 0, .ref z_isArc, .ref z_reaches, .ref z_knotOf, .int 0, .ref z_aheadOf, .ref z_rows, .ref z_deep, .ref z_left, .ref z_partOf, .ref z_sideOf, .ref z_isOdd, .int 0, .ref z_row])), (z_isArc, .inl (kz_isArc, 196, .inl (upd g_21 (Int32.toNatClampNeg 42) (vp_nar .boolean 0))))] := hD
  generalize (upd g_21 (Int32.toNatClampNeg 42) (vp_nar .boolean 0)) = g_24 at hP hD
  refine lv_iinc (v := 4) (lv' := [(1, .int 4), (0, .ref qm)]) hx hb d_p7_6_50 hl (k := 0) rfl (by decide) (by decide) rfl (fun ls hl => ?_)
  refine lv_goto (tgt := 14) hx hb d_p7_6_53 (by decide) ?_
  refine lv_iload_n hx hb d_p7_6_14 rfl (lv_at hl 0 rfl) ?_
  refine lv_bipush (v := 14) hx hb d_p7_6_15 (by decide) ?_
  refine lv_icmp_ge (tgt := 56) hx hb d_p7_6_17 (by decide) (fun c => absurd c (by decide)) (fun _ => ?_)
  refine lv_aload_n hx hb d_p7_6_20 rfl (lv_at hl 1 rfl) ?_
  refine va_get (D := (dC, dI)) (ci := 5) (v := .ref z_isArc) (C := "StrongPartsModel") (T := T_5) (N := 14) hx hb hts in_5 hown hK hP 0 rfl rfl 1 (by decide) (hts _ tw_488) (fun _ h9 => h9) rfl d_p7_6_21 ?_
  refine lv_bipush (v := 14) hx hb d_p7_6_24 (by decide) ?_
  refine lv_aload_n hx hb d_p7_6_26 rfl (lv_at hl 1 rfl) ?_
  refine va_get (D := (dC, dI)) (ci := 5) (v := .int 0) (C := "StrongPartsModel") (T := T_5) (N := 14) hx hb hts in_5 hown hK hP 0 rfl rfl 0 (by decide) (hts _ tw_487) (fun _ h9 => h9) rfl d_p7_6_27 ?_
  refine lv_imul hx hb d_p7_6_30 ?_
  refine lv_topi (fun z_25 ez_25 => ?_)
  obtain rfl : z_25 = (0 : Int32) := ez_25.trans (by decide)
  refine lv_iload_n hx hb d_p7_6_31 rfl (lv_at hl 0 rfl) ?_
  refine lv_iadd hx hb d_p7_6_32 ?_
  refine lv_topi (fun z_26 ez_26 => ?_)
  obtain rfl : z_26 = (4 : Int32) := ez_26.trans (by decide)
  refine lv_iconst (v := 0) hx hb d_p7_6_33 (by decide) ?_
  refine va_zast hx hb hK hP hD hS 1 0 rfl rfl (i := 4) (by unfold vp_in; decide) d_p7_6_34 (fun H locs hP hD hS => ?_)
  have hP : va_P (dC, dI) classes [(qm, .inr (5, [.int 0, .ref z_isArc, .ref z_reaches, .ref z_knotOf, .int 0, .ref z_aheadOf, .ref z_rows, .ref z_deep, .ref z_left, .ref z_partOf, .ref z_sideOf, .ref z_isOdd, .int 0, .ref z_row])), (z_isArc, .inl (kz_isArc, 196, .inl (upd g_24 (Int32.toNatClampNeg 4) (vp_nar .boolean 0))))] H := hP
  have hD : va_D A [(qm, .inr (5, [.int 0, .ref z_isArc, .ref z_reaches, .ref z_knotOf, .int 0, .ref z_aheadOf, .ref z_rows, .ref z_deep, .ref z_left, .ref z_partOf, .ref z_sideOf, .ref z_isOdd, .int 0, .ref z_row])), (z_isArc, .inl (kz_isArc, 196, .inl (upd g_24 (Int32.toNatClampNeg 4) (vp_nar .boolean 0))))] := hD
  generalize (upd g_24 (Int32.toNatClampNeg 4) (vp_nar .boolean 0)) = g_27 at hP hD
  refine lv_aload_n hx hb d_p7_6_35 rfl (lv_at hl 1 rfl) ?_
  refine va_get (D := (dC, dI)) (ci := 5) (v := .ref z_isArc) (C := "StrongPartsModel") (T := T_5) (N := 14) hx hb hts in_5 hown hK hP 0 rfl rfl 1 (by decide) (hts _ tw_488) (fun _ h9 => h9) rfl d_p7_6_36 ?_
  refine lv_bipush (v := 14) hx hb d_p7_6_39 (by decide) ?_
  refine lv_iload_n hx hb d_p7_6_41 rfl (lv_at hl 0 rfl) ?_
  refine lv_imul hx hb d_p7_6_42 ?_
  refine lv_topi (fun z_28 ez_28 => ?_)
  obtain rfl : z_28 = (56 : Int32) := ez_28.trans (by decide)
  refine lv_aload_n hx hb d_p7_6_43 rfl (lv_at hl 1 rfl) ?_
  refine va_get (D := (dC, dI)) (ci := 5) (v := .int 0) (C := "StrongPartsModel") (T := T_5) (N := 14) hx hb hts in_5 hown hK hP 0 rfl rfl 0 (by decide) (hts _ tw_487) (fun _ h9 => h9) rfl d_p7_6_44 ?_
  refine lv_iadd hx hb d_p7_6_47 ?_
  refine lv_topi (fun z_29 ez_29 => ?_)
  obtain rfl : z_29 = (56 : Int32) := ez_29.trans (by decide)
  refine lv_iconst (v := 0) hx hb d_p7_6_48 (by decide) ?_
  refine va_zast hx hb hK hP hD hS 1 0 rfl rfl (i := 56) (by unfold vp_in; decide) d_p7_6_49 (fun H locs hP hD hS => ?_)
  have hP : va_P (dC, dI) classes [(qm, .inr (5, [.int 0, .ref z_isArc, .ref z_reaches, .ref z_knotOf, .int 0, .ref z_aheadOf, .ref z_rows, .ref z_deep, .ref z_left, .ref z_partOf, .ref z_sideOf, .ref z_isOdd, .int 0, .ref z_row])), (z_isArc, .inl (kz_isArc, 196, .inl (upd g_27 (Int32.toNatClampNeg 56) (vp_nar .boolean 0))))] H := hP
  have hD : va_D A [(qm, .inr (5, [.int 0, .ref z_isArc, .ref z_reaches, .ref z_knotOf, .int 0, .ref z_aheadOf, .ref z_rows, .ref z_deep, .ref z_left, .ref z_partOf, .ref z_sideOf, .ref z_isOdd, .int 0, .ref z_row])), (z_isArc, .inl (kz_isArc, 196, .inl (upd g_27 (Int32.toNatClampNeg 56) (vp_nar .boolean 0))))] := hD
  generalize (upd g_27 (Int32.toNatClampNeg 56) (vp_nar .boolean 0)) = g_30 at hP hD
  refine lv_iinc (v := 5) (lv' := [(1, .int 5), (0, .ref qm)]) hx hb d_p7_6_50 hl (k := 0) rfl (by decide) (by decide) rfl (fun ls hl => ?_)
  refine lv_goto (tgt := 14) hx hb d_p7_6_53 (by decide) ?_
  refine lv_iload_n hx hb d_p7_6_14 rfl (lv_at hl 0 rfl) ?_
  refine lv_bipush (v := 14) hx hb d_p7_6_15 (by decide) ?_
  refine lv_icmp_ge (tgt := 56) hx hb d_p7_6_17 (by decide) (fun c => absurd c (by decide)) (fun _ => ?_)
  refine lv_aload_n hx hb d_p7_6_20 rfl (lv_at hl 1 rfl) ?_
  refine va_get (D := (dC, dI)) (ci := 5) (v := .ref z_isArc) (C := "StrongPartsModel") (T := T_5) (N := 14) hx hb hts in_5 hown hK hP 0 rfl rfl 1 (by decide) (hts _ tw_488) (fun _ h9 => h9) rfl d_p7_6_21 ?_
  refine lv_bipush (v := 14) hx hb d_p7_6_24 (by decide) ?_
  refine lv_aload_n hx hb d_p7_6_26 rfl (lv_at hl 1 rfl) ?_
  refine va_get (D := (dC, dI)) (ci := 5) (v := .int 0) (C := "StrongPartsModel") (T := T_5) (N := 14) hx hb hts in_5 hown hK hP 0 rfl rfl 0 (by decide) (hts _ tw_487) (fun _ h9 => h9) rfl d_p7_6_27 ?_
  refine lv_imul hx hb d_p7_6_30 ?_
  refine lv_topi (fun z_31 ez_31 => ?_)
  obtain rfl : z_31 = (0 : Int32) := ez_31.trans (by decide)
  refine lv_iload_n hx hb d_p7_6_31 rfl (lv_at hl 0 rfl) ?_
  refine lv_iadd hx hb d_p7_6_32 ?_
  refine lv_topi (fun z_32 ez_32 => ?_)
  obtain rfl : z_32 = (5 : Int32) := ez_32.trans (by decide)
  refine lv_iconst (v := 0) hx hb d_p7_6_33 (by decide) ?_
  refine va_zast hx hb hK hP hD hS 1 0 rfl rfl (i := 5) (by unfold vp_in; decide) d_p7_6_34 (fun H locs hP hD hS => ?_)
  have hP : va_P (dC, dI) classes [(qm, .inr (5, [.int 0, .ref z_isArc, .ref z_reaches, .ref z_knotOf, .int 0, .ref z_aheadOf, .ref z_rows, .ref z_deep, .ref z_left, .ref z_partOf, .ref z_sideOf, .ref z_isOdd, .int 0, .ref z_row])), (z_isArc, .inl (kz_isArc, 196, .inl (upd g_30 (Int32.toNatClampNeg 5) (vp_nar .boolean 0))))] H := hP
  have hD : va_D A [(qm, .inr (5, [.int 0, .ref z_isArc, .ref z_reaches, .ref z_knotOf, .int 0, .ref z_aheadOf, .ref z_rows, .ref z_deep, .ref z_left, .ref z_partOf, .ref z_sideOf, .ref z_isOdd, .int 0, .ref z_row])), (z_isArc, .inl (kz_isArc, 196, .inl (upd g_30 (Int32.toNatClampNeg 5) (vp_nar .boolean 0))))] := hD
  generalize (upd g_30 (Int32.toNatClampNeg 5) (vp_nar .boolean 0)) = g_33 at hP hD
  refine lv_aload_n hx hb d_p7_6_35 rfl (lv_at hl 1 rfl) ?_
  refine va_get (D := (dC, dI)) (ci := 5) (v := .ref z_isArc) (C := "StrongPartsModel") (T := T_5) (N := 14) hx hb hts in_5 hown hK hP 0 rfl rfl 1 (by decide) (hts _ tw_488) (fun _ h9 => h9) rfl d_p7_6_36 ?_
  refine lv_bipush (v := 14) hx hb d_p7_6_39 (by decide) ?_
  refine lv_iload_n hx hb d_p7_6_41 rfl (lv_at hl 0 rfl) ?_
  refine lv_imul hx hb d_p7_6_42 ?_
  refine lv_topi (fun z_34 ez_34 => ?_)
  obtain rfl : z_34 = (70 : Int32) := ez_34.trans (by decide)
  refine lv_aload_n hx hb d_p7_6_43 rfl (lv_at hl 1 rfl) ?_
  refine va_get (D := (dC, dI)) (ci := 5) (v := .int 0) (C := "StrongPartsModel") (T := T_5) (N := 14) hx hb hts in_5 hown hK hP 0 rfl rfl 0 (by decide) (hts _ tw_487) (fun _ h9 => h9) rfl d_p7_6_44 ?_
  refine lv_iadd hx hb d_p7_6_47 ?_
  refine lv_topi (fun z_35 ez_35 => ?_)
  obtain rfl : z_35 = (70 : Int32) := ez_35.trans (by decide)
  refine lv_iconst (v := 0) hx hb d_p7_6_48 (by decide) ?_
  refine va_zast hx hb hK hP hD hS 1 0 rfl rfl (i := 70) (by unfold vp_in; decide) d_p7_6_49 (fun H locs hP hD hS => ?_)
  have hP : va_P (dC, dI) classes [(qm, .inr (5, [.int 0, .ref z_isArc, .ref z_reaches, .ref z_knotOf, .int 0, .ref z_aheadOf, .ref z_rows, .ref z_deep, .ref z_left, .ref z_partOf, .ref z_sideOf, .ref z_isOdd, .int 0, .ref z_row])), (z_isArc, .inl (kz_isArc, 196, .inl (upd g_33 (Int32.toNatClampNeg 70) (vp_nar .boolean 0))))] H := hP
  have hD : va_D A [(qm, .inr (5, [.int 0, .ref z_isArc, .ref z_reaches, .ref z_knotOf, .int 0, .ref z_aheadOf, .ref z_rows, .ref z_deep, .ref z_left, .ref z_partOf, .ref z_sideOf, .ref z_isOdd, .int 0, .ref z_row])), (z_isArc, .inl (kz_isArc, 196, .inl (upd g_33 (Int32.toNatClampNeg 70) (vp_nar .boolean 0))))] := hD
  generalize (upd g_33 (Int32.toNatClampNeg 70) (vp_nar .boolean 0)) = g_36 at hP hD
  refine lv_iinc (v := 6) (lv' := [(1, .int 6), (0, .ref qm)]) hx hb d_p7_6_50 hl (k := 0) rfl (by decide) (by decide) rfl (fun ls hl => ?_)
  refine lv_goto (tgt := 14) hx hb d_p7_6_53 (by decide) ?_
  refine lv_iload_n hx hb d_p7_6_14 rfl (lv_at hl 0 rfl) ?_
  refine lv_bipush (v := 14) hx hb d_p7_6_15 (by decide) ?_
  refine lv_icmp_ge (tgt := 56) hx hb d_p7_6_17 (by decide) (fun c => absurd c (by decide)) (fun _ => ?_)
  refine lv_aload_n hx hb d_p7_6_20 rfl (lv_at hl 1 rfl) ?_
  refine va_get (D := (dC, dI)) (ci := 5) (v := .ref z_isArc) (C := "StrongPartsModel") (T := T_5) (N := 14) hx hb hts in_5 hown hK hP 0 rfl rfl 1 (by decide) (hts _ tw_488) (fun _ h9 => h9) rfl d_p7_6_21 ?_
  refine lv_bipush (v := 14) hx hb d_p7_6_24 (by decide) ?_
  refine lv_aload_n hx hb d_p7_6_26 rfl (lv_at hl 1 rfl) ?_
  refine va_get (D := (dC, dI)) (ci := 5) (v := .int 0) (C := "StrongPartsModel") (T := T_5) (N := 14) hx hb hts in_5 hown hK hP 0 rfl rfl 0 (by decide) (hts _ tw_487) (fun _ h9 => h9) rfl d_p7_6_27 ?_
  refine lv_imul hx hb d_p7_6_30 ?_
  refine lv_topi (fun z_37 ez_37 => ?_)
  obtain rfl : z_37 = (0 : Int32) := ez_37.trans (by decide)
  refine lv_iload_n hx hb d_p7_6_31 rfl (lv_at hl 0 rfl) ?_
  refine lv_iadd hx hb d_p7_6_32 ?_
  refine lv_topi (fun z_38 ez_38 => ?_)
  obtain rfl : z_38 = (6 : Int32) := ez_38.trans (by decide)
  refine lv_iconst (v := 0) hx hb d_p7_6_33 (by decide) ?_
  refine va_zast hx hb hK hP hD hS 1 0 rfl rfl (i := 6) (by unfold vp_in; decide) d_p7_6_34 (fun H locs hP hD hS => ?_)
  have hP : va_P (dC, dI) classes [(qm, .inr (5, [.int 0, .ref z_isArc, .ref z_reaches, .ref z_knotOf, .int 0, .ref z_aheadOf, .ref z_rows, .ref z_deep, .ref z_left, .ref z_partOf, .ref z_sideOf, .ref z_isOdd, .int 0, .ref z_row])), (z_isArc, .inl (kz_isArc, 196, .inl (upd g_36 (Int32.toNatClampNeg 6) (vp_nar .boolean 0))))] H := hP
  have hD : va_D A [(qm, .inr (5, [.int 0, .ref z_isArc, .ref z_reaches, .ref z_knotOf, .int 0, .ref z_aheadOf, .ref z_rows, .ref z_deep, .ref z_left, .ref z_partOf, .ref z_sideOf, .ref z_isOdd, .int 0, .ref z_row])), (z_isArc, .inl (kz_isArc, 196, .inl (upd g_36 (Int32.toNatClampNeg 6) (vp_nar .boolean 0))))] := hD
  generalize (upd g_36 (Int32.toNatClampNeg 6) (vp_nar .boolean 0)) = g_39 at hP hD
  refine lv_aload_n hx hb d_p7_6_35 rfl (lv_at hl 1 rfl) ?_
  refine va_get (D := (dC, dI)) (ci := 5) (v := .ref z_isArc) (C := "StrongPartsModel") (T := T_5) (N := 14) hx hb hts in_5 hown hK hP 0 rfl rfl 1 (by decide) (hts _ tw_488) (fun _ h9 => h9) rfl d_p7_6_36 ?_
  refine lv_bipush (v := 14) hx hb d_p7_6_39 (by decide) ?_
  refine lv_iload_n hx hb d_p7_6_41 rfl (lv_at hl 0 rfl) ?_
  refine lv_imul hx hb d_p7_6_42 ?_
  refine lv_topi (fun z_40 ez_40 => ?_)
  obtain rfl : z_40 = (84 : Int32) := ez_40.trans (by decide)
  refine lv_aload_n hx hb d_p7_6_43 rfl (lv_at hl 1 rfl) ?_
  refine va_get (D := (dC, dI)) (ci := 5) (v := .int 0) (C := "StrongPartsModel") (T := T_5) (N := 14) hx hb hts in_5 hown hK hP 0 rfl rfl 0 (by decide) (hts _ tw_487) (fun _ h9 => h9) rfl d_p7_6_44 ?_
  refine lv_iadd hx hb d_p7_6_47 ?_
  refine lv_topi (fun z_41 ez_41 => ?_)
  obtain rfl : z_41 = (84 : Int32) := ez_41.trans (by decide)
  refine lv_iconst (v := 0) hx hb d_p7_6_48 (by decide) ?_
  refine va_zast hx hb hK hP hD hS 1 0 rfl rfl (i := 84) (by unfold vp_in; decide) d_p7_6_49 (fun H locs hP hD hS => ?_)
  have hP : va_P (dC, dI) classes [(qm, .inr (5, [.int 0, .ref z_isArc, .ref z_reaches, .ref z_knotOf, .int 0, .ref z_aheadOf, .ref z_rows, .ref z_deep, .ref z_left, .ref z_partOf, .ref z_sideOf, .ref z_isOdd, .int 0, .ref z_row])), (z_isArc, .inl (kz_isArc, 196, .inl (upd g_39 (Int32.toNatClampNeg 84) (vp_nar .boolean 0))))] H := hP
  have hD : va_D A [(qm, .inr (5, [.int 0, .ref z_isArc, .ref z_reaches, .ref z_knotOf, .int 0, .ref z_aheadOf, .ref z_rows, .ref z_deep, .ref z_left, .ref z_partOf, .ref z_sideOf, .ref z_isOdd, .int 0, .ref z_row])), (z_isArc, .inl (kz_isArc, 196, .inl (upd g_39 (Int32.toNatClampNeg 84) (vp_nar .boolean 0))))] := hD
  generalize (upd g_39 (Int32.toNatClampNeg 84) (vp_nar .boolean 0)) = g_42 at hP hD
  refine lv_iinc (v := 7) (lv' := [(1, .int 7), (0, .ref qm)]) hx hb d_p7_6_50 hl (k := 0) rfl (by decide) (by decide) rfl (fun ls hl => ?_)
  refine lv_goto (tgt := 14) hx hb d_p7_6_53 (by decide) ?_
  refine lv_iload_n hx hb d_p7_6_14 rfl (lv_at hl 0 rfl) ?_
  refine lv_bipush (v := 14) hx hb d_p7_6_15 (by decide) ?_
  refine lv_icmp_ge (tgt := 56) hx hb d_p7_6_17 (by decide) (fun c => absurd c (by decide)) (fun _ => ?_)
  refine lv_aload_n hx hb d_p7_6_20 rfl (lv_at hl 1 rfl) ?_
  refine va_get (D := (dC, dI)) (ci := 5) (v := .ref z_isArc) (C := "StrongPartsModel") (T := T_5) (N := 14) hx hb hts in_5 hown hK hP 0 rfl rfl 1 (by decide) (hts _ tw_488) (fun _ h9 => h9) rfl d_p7_6_21 ?_
  refine lv_bipush (v := 14) hx hb d_p7_6_24 (by decide) ?_
  refine lv_aload_n hx hb d_p7_6_26 rfl (lv_at hl 1 rfl) ?_
  refine va_get (D := (dC, dI)) (ci := 5) (v := .int 0) (C := "StrongPartsModel") (T := T_5) (N := 14) hx hb hts in_5 hown hK hP 0 rfl rfl 0 (by decide) (hts _ tw_487) (fun _ h9 => h9) rfl d_p7_6_27 ?_
  refine lv_imul hx hb d_p7_6_30 ?_
  refine lv_topi (fun z_43 ez_43 => ?_)
  obtain rfl : z_43 = (0 : Int32) := ez_43.trans (by decide)
  refine lv_iload_n hx hb d_p7_6_31 rfl (lv_at hl 0 rfl) ?_
  refine lv_iadd hx hb d_p7_6_32 ?_
  refine lv_topi (fun z_44 ez_44 => ?_)
  obtain rfl : z_44 = (7 : Int32) := ez_44.trans (by decide)
  refine lv_iconst (v := 0) hx hb d_p7_6_33 (by decide) ?_
  refine va_zast hx hb hK hP hD hS 1 0 rfl rfl (i := 7) (by unfold vp_in; decide) d_p7_6_34 (fun H locs hP hD hS => ?_)
  have hP : va_P (dC, dI) classes [(qm, .inr (5, [.int 0, .ref z_isArc, .ref z_reaches, .ref z_knotOf, .int 0, .ref z_aheadOf, .ref z_rows, .ref z_deep, .ref z_left, .ref z_partOf, .ref z_sideOf, .ref z_isOdd, .int 0, .ref z_row])), (z_isArc, .inl (kz_isArc, 196, .inl (upd g_42 (Int32.toNatClampNeg 7) (vp_nar .boolean 0))))] H := hP
  have hD : va_D A [(qm, .inr (5, [.int 0, .ref z_isArc, .ref z_reaches, .ref z_knotOf, .int 0, .ref z_aheadOf, .ref z_rows, .ref z_deep, .ref z_left, .ref z_partOf, .ref z_sideOf, .ref z_isOdd, .int 0, .ref z_row])), (z_isArc, .inl (kz_isArc, 196, .inl (upd g_42 (Int32.toNatClampNeg 7) (vp_nar .boolean 0))))] := hD
  generalize (upd g_42 (Int32.toNatClampNeg 7) (vp_nar .boolean 0)) = g_45 at hP hD
  refine lv_aload_n hx hb d_p7_6_35 rfl (lv_at hl 1 rfl) ?_
  refine va_get (D := (dC, dI)) (ci := 5) (v := .ref z_isArc) (C := "StrongPartsModel") (T := T_5) (N := 14) hx hb hts in_5 hown hK hP 0 rfl rfl 1 (by decide) (hts _ tw_488) (fun _ h9 => h9) rfl d_p7_6_36 ?_
  refine lv_bipush (v := 14) hx hb d_p7_6_39 (by decide) ?_
  refine lv_iload_n hx hb d_p7_6_41 rfl (lv_at hl 0 rfl) ?_
  refine lv_imul hx hb d_p7_6_42 ?_
  refine lv_topi (fun z_46 ez_46 => ?_)
  obtain rfl : z_46 = (98 : Int32) := ez_46.trans (by decide)
  refine lv_aload_n hx hb d_p7_6_43 rfl (lv_at hl 1 rfl) ?_
  refine va_get (D := (dC, dI)) (ci := 5) (v := .int 0) (C := "StrongPartsModel") (T := T_5) (N := 14) hx hb hts in_5 hown hK hP 0 rfl rfl 0 (by decide) (hts _ tw_487) (fun _ h9 => h9) rfl d_p7_6_44 ?_
  refine lv_iadd hx hb d_p7_6_47 ?_
  refine lv_topi (fun z_47 ez_47 => ?_)
  obtain rfl : z_47 = (98 : Int32) := ez_47.trans (by decide)
  refine lv_iconst (v := 0) hx hb d_p7_6_48 (by decide) ?_
  refine va_zast hx hb hK hP hD hS 1 0 rfl rfl (i := 98) (by unfold vp_in; decide) d_p7_6_49 (fun H locs hP hD hS => ?_)
  have hP : va_P (dC, dI) classes [(qm, .inr (5, [.int 0, .ref z_isArc, .ref z_reaches, .ref z_knotOf, .int 0, .ref z_aheadOf, .ref z_rows, .ref z_deep, .ref z_left, .ref z_partOf, .ref z_sideOf, .ref z_isOdd, .int 0, .ref z_row])), (z_isArc, .inl (kz_isArc, 196, .inl (upd g_45 (Int32.toNatClampNeg 98) (vp_nar .boolean 0))))] H := hP
  have hD : va_D A [(qm, .inr (5, [.int 0, .ref z_isArc, .ref z_reaches, .ref z_knotOf, .int 0, .ref z_aheadOf, .ref z_rows, .ref z_deep, .ref z_left, .ref z_partOf, .ref z_sideOf, .ref z_isOdd, .int 0, .ref z_row])), (z_isArc, .inl (kz_isArc, 196, .inl (upd g_45 (Int32.toNatClampNeg 98) (vp_nar .boolean 0))))] := hD
  generalize (upd g_45 (Int32.toNatClampNeg 98) (vp_nar .boolean 0)) = g_48 at hP hD
  refine lv_iinc (v := 8) (lv' := [(1, .int 8), (0, .ref qm)]) hx hb d_p7_6_50 hl (k := 0) rfl (by decide) (by decide) rfl (fun ls hl => ?_)
  refine lv_goto (tgt := 14) hx hb d_p7_6_53 (by decide) ?_
  refine lv_iload_n hx hb d_p7_6_14 rfl (lv_at hl 0 rfl) ?_
  refine lv_bipush (v := 14) hx hb d_p7_6_15 (by decide) ?_
  refine lv_icmp_ge (tgt := 56) hx hb d_p7_6_17 (by decide) (fun c => absurd c (by decide)) (fun _ => ?_)
  refine lv_aload_n hx hb d_p7_6_20 rfl (lv_at hl 1 rfl) ?_
  refine va_get (D := (dC, dI)) (ci := 5) (v := .ref z_isArc) (C := "StrongPartsModel") (T := T_5) (N := 14) hx hb hts in_5 hown hK hP 0 rfl rfl 1 (by decide) (hts _ tw_488) (fun _ h9 => h9) rfl d_p7_6_21 ?_
  refine lv_bipush (v := 14) hx hb d_p7_6_24 (by decide) ?_
  refine lv_aload_n hx hb d_p7_6_26 rfl (lv_at hl 1 rfl) ?_
  refine va_get (D := (dC, dI)) (ci := 5) (v := .int 0) (C := "StrongPartsModel") (T := T_5) (N := 14) hx hb hts in_5 hown hK hP 0 rfl rfl 0 (by decide) (hts _ tw_487) (fun _ h9 => h9) rfl d_p7_6_27 ?_
  refine lv_imul hx hb d_p7_6_30 ?_
  refine lv_topi (fun z_49 ez_49 => ?_)
  obtain rfl : z_49 = (0 : Int32) := ez_49.trans (by decide)
  refine lv_iload_n hx hb d_p7_6_31 rfl (lv_at hl 0 rfl) ?_
  refine lv_iadd hx hb d_p7_6_32 ?_
  refine lv_topi (fun z_50 ez_50 => ?_)
  obtain rfl : z_50 = (8 : Int32) := ez_50.trans (by decide)
  refine lv_iconst (v := 0) hx hb d_p7_6_33 (by decide) ?_
  refine va_zast hx hb hK hP hD hS 1 0 rfl rfl (i := 8) (by unfold vp_in; decide) d_p7_6_34 (fun H locs hP hD hS => ?_)
  have hP : va_P (dC, dI) classes [(qm, .inr (5, [.int 0, .ref z_isArc, .ref z_reaches, .ref z_knotOf, .int 0, .ref z_aheadOf, .ref z_rows, .ref z_deep, .ref z_left, .ref z_partOf, .ref z_sideOf, .ref z_isOdd, .int 0, .ref z_row])), (z_isArc, .inl (kz_isArc, 196, .inl (upd g_48 (Int32.toNatClampNeg 8) (vp_nar .boolean 0))))] H := hP
  have hD : va_D A [(qm, .inr (5, [.int 0, .ref z_isArc, .ref z_reaches, .ref z_knotOf, .int 0, .ref z_aheadOf, .ref z_rows, .ref z_deep, .ref z_left, .ref z_partOf, .ref z_sideOf, .ref z_isOdd, .int 0, .ref z_row])), (z_isArc, .inl (kz_isArc, 196, .inl (upd g_48 (Int32.toNatClampNeg 8) (vp_nar .boolean 0))))] := hD
  generalize (upd g_48 (Int32.toNatClampNeg 8) (vp_nar .boolean 0)) = g_51 at hP hD
  refine lv_aload_n hx hb d_p7_6_35 rfl (lv_at hl 1 rfl) ?_
  refine va_get (D := (dC, dI)) (ci := 5) (v := .ref z_isArc) (C := "StrongPartsModel") (T := T_5) (N := 14) hx hb hts in_5 hown hK hP 0 rfl rfl 1 (by decide) (hts _ tw_488) (fun _ h9 => h9) rfl d_p7_6_36 ?_
  refine lv_bipush (v := 14) hx hb d_p7_6_39 (by decide) ?_
  refine lv_iload_n hx hb d_p7_6_41 rfl (lv_at hl 0 rfl) ?_
  refine lv_imul hx hb d_p7_6_42 ?_
  refine lv_topi (fun z_52 ez_52 => ?_)
  obtain rfl : z_52 = (112 : Int32) := ez_52.trans (by decide)
  refine lv_aload_n hx hb d_p7_6_43 rfl (lv_at hl 1 rfl) ?_
  refine va_get (D := (dC, dI)) (ci := 5) (v := .int 0) (C := "StrongPartsModel") (T := T_5) (N := 14) hx hb hts in_5 hown hK hP 0 rfl rfl 0 (by decide) (hts _ tw_487) (fun _ h9 => h9) rfl d_p7_6_44 ?_
  refine lv_iadd hx hb d_p7_6_47 ?_
  refine lv_topi (fun z_53 ez_53 => ?_)
  obtain rfl : z_53 = (112 : Int32) := ez_53.trans (by decide)
  refine lv_iconst (v := 0) hx hb d_p7_6_48 (by decide) ?_
  refine va_zast hx hb hK hP hD hS 1 0 rfl rfl (i := 112) (by unfold vp_in; decide) d_p7_6_49 (fun H locs hP hD hS => ?_)
  have hP : va_P (dC, dI) classes [(qm, .inr (5, [.int 0, .ref z_isArc, .ref z_reaches, .ref z_knotOf, .int 0, .ref z_aheadOf, .ref z_rows, .ref z_deep, .ref z_left, .ref z_partOf, .ref z_sideOf, .ref z_isOdd, .int 0, .ref z_row])), (z_isArc, .inl (kz_isArc, 196, .inl (upd g_51 (Int32.toNatClampNeg 112) (vp_nar .boolean 0))))] H := hP
  have hD : va_D A [(qm, .inr (5, [.int 0, .ref z_isArc, .ref z_reaches, .ref z_knotOf, .int 0, .ref z_aheadOf, .ref z_rows, .ref z_deep, .ref z_left, .ref z_partOf, .ref z_sideOf, .ref z_isOdd, .int 0, .ref z_row])), (z_isArc, .inl (kz_isArc, 196, .inl (upd g_51 (Int32.toNatClampNeg 112) (vp_nar .boolean 0))))] := hD
  generalize (upd g_51 (Int32.toNatClampNeg 112) (vp_nar .boolean 0)) = g_54 at hP hD
  refine lv_iinc (v := 9) (lv' := [(1, .int 9), (0, .ref qm)]) hx hb d_p7_6_50 hl (k := 0) rfl (by decide) (by decide) rfl (fun ls hl => ?_)
  refine lv_goto (tgt := 14) hx hb d_p7_6_53 (by decide) ?_
  refine lv_iload_n hx hb d_p7_6_14 rfl (lv_at hl 0 rfl) ?_
  refine lv_bipush (v := 14) hx hb d_p7_6_15 (by decide) ?_
  refine lv_icmp_ge (tgt := 56) hx hb d_p7_6_17 (by decide) (fun c => absurd c (by decide)) (fun _ => ?_)
  refine lv_aload_n hx hb d_p7_6_20 rfl (lv_at hl 1 rfl) ?_
  refine va_get (D := (dC, dI)) (ci := 5) (v := .ref z_isArc) (C := "StrongPartsModel") (T := T_5) (N := 14) hx hb hts in_5 hown hK hP 0 rfl rfl 1 (by decide) (hts _ tw_488) (fun _ h9 => h9) rfl d_p7_6_21 ?_
  refine lv_bipush (v := 14) hx hb d_p7_6_24 (by decide) ?_
  refine lv_aload_n hx hb d_p7_6_26 rfl (lv_at hl 1 rfl) ?_
  refine va_get (D := (dC, dI)) (ci := 5) (v := .int 0) (C := "StrongPartsModel") (T := T_5) (N := 14) hx hb hts in_5 hown hK hP 0 rfl rfl 0 (by decide) (hts _ tw_487) (fun _ h9 => h9) rfl d_p7_6_27 ?_
  refine lv_imul hx hb d_p7_6_30 ?_
  refine lv_topi (fun z_55 ez_55 => ?_)
  obtain rfl : z_55 = (0 : Int32) := ez_55.trans (by decide)
  refine lv_iload_n hx hb d_p7_6_31 rfl (lv_at hl 0 rfl) ?_
  refine lv_iadd hx hb d_p7_6_32 ?_
  refine lv_topi (fun z_56 ez_56 => ?_)
  obtain rfl : z_56 = (9 : Int32) := ez_56.trans (by decide)
  refine lv_iconst (v := 0) hx hb d_p7_6_33 (by decide) ?_
  refine va_zast hx hb hK hP hD hS 1 0 rfl rfl (i := 9) (by unfold vp_in; decide) d_p7_6_34 (fun H locs hP hD hS => ?_)
  have hP : va_P (dC, dI) classes [(qm, .inr (5, [.int 0, .ref z_isArc, .ref z_reaches, .ref z_knotOf, .int 0, .ref z_aheadOf, .ref z_rows, .ref z_deep, .ref z_left, .ref z_partOf, .ref z_sideOf, .ref z_isOdd, .int 0, .ref z_row])), (z_isArc, .inl (kz_isArc, 196, .inl (upd g_54 (Int32.toNatClampNeg 9) (vp_nar .boolean 0))))] H := hP
  have hD : va_D A [(qm, .inr (5, [.int 0, .ref z_isArc, .ref z_reaches, .ref z_knotOf, .int 0, .ref z_aheadOf, .ref z_rows, .ref z_deep, .ref z_left, .ref z_partOf, .ref z_sideOf, .ref z_isOdd, .int 0, .ref z_row])), (z_isArc, .inl (kz_isArc, 196, .inl (upd g_54 (Int32.toNatClampNeg 9) (vp_nar .boolean 0))))] := hD
  generalize (upd g_54 (Int32.toNatClampNeg 9) (vp_nar .boolean 0)) = g_57 at hP hD
  refine lv_aload_n hx hb d_p7_6_35 rfl (lv_at hl 1 rfl) ?_
  refine va_get (D := (dC, dI)) (ci := 5) (v := .ref z_isArc) (C := "StrongPartsModel") (T := T_5) (N := 14) hx hb hts in_5 hown hK hP 0 rfl rfl 1 (by decide) (hts _ tw_488) (fun _ h9 => h9) rfl d_p7_6_36 ?_
  refine lv_bipush (v := 14) hx hb d_p7_6_39 (by decide) ?_
  refine lv_iload_n hx hb d_p7_6_41 rfl (lv_at hl 0 rfl) ?_
  refine lv_imul hx hb d_p7_6_42 ?_
  refine lv_topi (fun z_58 ez_58 => ?_)
  obtain rfl : z_58 = (126 : Int32) := ez_58.trans (by decide)
  refine lv_aload_n hx hb d_p7_6_43 rfl (lv_at hl 1 rfl) ?_
  refine va_get (D := (dC, dI)) (ci := 5) (v := .int 0) (C := "StrongPartsModel") (T := T_5) (N := 14) hx hb hts in_5 hown hK hP 0 rfl rfl 0 (by decide) (hts _ tw_487) (fun _ h9 => h9) rfl d_p7_6_44 ?_
  refine lv_iadd hx hb d_p7_6_47 ?_
  refine lv_topi (fun z_59 ez_59 => ?_)
  obtain rfl : z_59 = (126 : Int32) := ez_59.trans (by decide)
  refine lv_iconst (v := 0) hx hb d_p7_6_48 (by decide) ?_
  refine va_zast hx hb hK hP hD hS 1 0 rfl rfl (i := 126) (by unfold vp_in; decide) d_p7_6_49 (fun H locs hP hD hS => ?_)
  have hP : va_P (dC, dI) classes [(qm, .inr (5, [.int 0, .ref z_isArc, .ref z_reaches, .ref z_knotOf, .int 0, .ref z_aheadOf, .ref z_rows, .ref z_deep, .ref z_left, .ref z_partOf, .ref z_sideOf, .ref z_isOdd, .int 0, .ref z_row])), (z_isArc, .inl (kz_isArc, 196, .inl (upd g_57 (Int32.toNatClampNeg 126) (vp_nar .boolean 0))))] H := hP
  have hD : va_D A [(qm, .inr (5, [.int 0, .ref z_isArc, .ref z_reaches, .ref z_knotOf, .int 0, .ref z_aheadOf, .ref z_rows, .ref z_deep, .ref z_left, .ref z_partOf, .ref z_sideOf, .ref z_isOdd, .int 0, .ref z_row])), (z_isArc, .inl (kz_isArc, 196, .inl (upd g_57 (Int32.toNatClampNeg 126) (vp_nar .boolean 0))))] := hD
  generalize (upd g_57 (Int32.toNatClampNeg 126) (vp_nar .boolean 0)) = g_60 at hP hD
  refine lv_iinc (v := 10) (lv' := [(1, .int 10), (0, .ref qm)]) hx hb d_p7_6_50 hl (k := 0) rfl (by decide) (by decide) rfl (fun ls hl => ?_)
  refine lv_goto (tgt := 14) hx hb d_p7_6_53 (by decide) ?_
  refine lv_iload_n hx hb d_p7_6_14 rfl (lv_at hl 0 rfl) ?_
  refine lv_bipush (v := 14) hx hb d_p7_6_15 (by decide) ?_
  refine lv_icmp_ge (tgt := 56) hx hb d_p7_6_17 (by decide) (fun c => absurd c (by decide)) (fun _ => ?_)
  refine lv_aload_n hx hb d_p7_6_20 rfl (lv_at hl 1 rfl) ?_
  refine va_get (D := (dC, dI)) (ci := 5) (v := .ref z_isArc) (C := "StrongPartsModel") (T := T_5) (N := 14) hx hb hts in_5 hown hK hP 0 rfl rfl 1 (by decide) (hts _ tw_488) (fun _ h9 => h9) rfl d_p7_6_21 ?_
  refine lv_bipush (v := 14) hx hb d_p7_6_24 (by decide) ?_
  refine lv_aload_n hx hb d_p7_6_26 rfl (lv_at hl 1 rfl) ?_
  refine va_get (D := (dC, dI)) (ci := 5) (v := .int 0) (C := "StrongPartsModel") (T := T_5) (N := 14) hx hb hts in_5 hown hK hP 0 rfl rfl 0 (by decide) (hts _ tw_487) (fun _ h9 => h9) rfl d_p7_6_27 ?_
  refine lv_imul hx hb d_p7_6_30 ?_
  refine lv_topi (fun z_61 ez_61 => ?_)
  obtain rfl : z_61 = (0 : Int32) := ez_61.trans (by decide)
  refine lv_iload_n hx hb d_p7_6_31 rfl (lv_at hl 0 rfl) ?_
  refine lv_iadd hx hb d_p7_6_32 ?_
  refine lv_topi (fun z_62 ez_62 => ?_)
  obtain rfl : z_62 = (10 : Int32) := ez_62.trans (by decide)
  refine lv_iconst (v := 0) hx hb d_p7_6_33 (by decide) ?_
  refine va_zast hx hb hK hP hD hS 1 0 rfl rfl (i := 10) (by unfold vp_in; decide) d_p7_6_34 (fun H locs hP hD hS => ?_)
  have hP : va_P (dC, dI) classes [(qm, .inr (5, [.int 0, .ref z_isArc, .ref z_reaches, .ref z_knotOf, .int 0, .ref z_aheadOf, .ref z_rows, .ref z_deep, .ref z_left, .ref z_partOf, .ref z_sideOf, .ref z_isOdd, .int 0, .ref z_row])), (z_isArc, .inl (kz_isArc, 196, .inl (upd g_60 (Int32.toNatClampNeg 10) (vp_nar .boolean 0))))] H := hP
  have hD : va_D A [(qm, .inr (5, [.int 0, .ref z_isArc, .ref z_reaches, .ref z_knotOf, .int 0, .ref z_aheadOf, .ref z_rows, .ref z_deep, .ref z_left, .ref z_partOf, .ref z_sideOf, .ref z_isOdd, .int 0, .ref z_row])), (z_isArc, .inl (kz_isArc, 196, .inl (upd g_60 (Int32.toNatClampNeg 10) (vp_nar .boolean 0))))] := hD
  generalize (upd g_60 (Int32.toNatClampNeg 10) (vp_nar .boolean 0)) = g_63 at hP hD
  refine lv_aload_n hx hb d_p7_6_35 rfl (lv_at hl 1 rfl) ?_
  refine va_get (D := (dC, dI)) (ci := 5) (v := .ref z_isArc) (C := "StrongPartsModel") (T := T_5) (N := 14) hx hb hts in_5 hown hK hP 0 rfl rfl 1 (by decide) (hts _ tw_488) (fun _ h9 => h9) rfl d_p7_6_36 ?_
  refine lv_bipush (v := 14) hx hb d_p7_6_39 (by decide) ?_
  refine lv_iload_n hx hb d_p7_6_41 rfl (lv_at hl 0 rfl) ?_
  refine lv_imul hx hb d_p7_6_42 ?_
  refine lv_topi (fun z_64 ez_64 => ?_)
  obtain rfl : z_64 = (140 : Int32) := ez_64.trans (by decide)
  refine lv_aload_n hx hb d_p7_6_43 rfl (lv_at hl 1 rfl) ?_
  refine va_get (D := (dC, dI)) (ci := 5) (v := .int 0) (C := "StrongPartsModel") (T := T_5) (N := 14) hx hb hts in_5 hown hK hP 0 rfl rfl 0 (by decide) (hts _ tw_487) (fun _ h9 => h9) rfl d_p7_6_44 ?_
  refine lv_iadd hx hb d_p7_6_47 ?_
  refine lv_topi (fun z_65 ez_65 => ?_)
  obtain rfl : z_65 = (140 : Int32) := ez_65.trans (by decide)
  refine lv_iconst (v := 0) hx hb d_p7_6_48 (by decide) ?_
  refine va_zast hx hb hK hP hD hS 1 0 rfl rfl (i := 140) (by unfold vp_in; decide) d_p7_6_49 (fun H locs hP hD hS => ?_)
  have hP : va_P (dC, dI) classes [(qm, .inr (5, [.int 0, .ref z_isArc, .ref z_reaches, .ref z_knotOf, .int 0, .ref z_aheadOf, .ref z_rows, .ref z_deep, .ref z_left, .ref z_partOf, .ref z_sideOf, .ref z_isOdd, .int 0, .ref z_row])), (z_isArc, .inl (kz_isArc, 196, .inl (upd g_63 (Int32.toNatClampNeg 140) (vp_nar .boolean 0))))] H := hP
  have hD : va_D A [(qm, .inr (5, [.int 0, .ref z_isArc, .ref z_reaches, .ref z_knotOf, .int 0, .ref z_aheadOf, .ref z_rows, .ref z_deep, .ref z_left, .ref z_partOf, .ref z_sideOf, .ref z_isOdd, .int 0, .ref z_row])), (z_isArc, .inl (kz_isArc, 196, .inl (upd g_63 (Int32.toNatClampNeg 140) (vp_nar .boolean 0))))] := hD
  generalize (upd g_63 (Int32.toNatClampNeg 140) (vp_nar .boolean 0)) = g_66 at hP hD
  refine lv_iinc (v := 11) (lv' := [(1, .int 11), (0, .ref qm)]) hx hb d_p7_6_50 hl (k := 0) rfl (by decide) (by decide) rfl (fun ls hl => ?_)
  refine lv_goto (tgt := 14) hx hb d_p7_6_53 (by decide) ?_
  refine lv_iload_n hx hb d_p7_6_14 rfl (lv_at hl 0 rfl) ?_
  refine lv_bipush (v := 14) hx hb d_p7_6_15 (by decide) ?_
  refine lv_icmp_ge (tgt := 56) hx hb d_p7_6_17 (by decide) (fun c => absurd c (by decide)) (fun _ => ?_)
  refine lv_aload_n hx hb d_p7_6_20 rfl (lv_at hl 1 rfl) ?_
  refine va_get (D := (dC, dI)) (ci := 5) (v := .ref z_isArc) (C := "StrongPartsModel") (T := T_5) (N := 14) hx hb hts in_5 hown hK hP 0 rfl rfl 1 (by decide) (hts _ tw_488) (fun _ h9 => h9) rfl d_p7_6_21 ?_
  refine lv_bipush (v := 14) hx hb d_p7_6_24 (by decide) ?_
  refine lv_aload_n hx hb d_p7_6_26 rfl (lv_at hl 1 rfl) ?_
  refine va_get (D := (dC, dI)) (ci := 5) (v := .int 0) (C := "StrongPartsModel") (T := T_5) (N := 14) hx hb hts in_5 hown hK hP 0 rfl rfl 0 (by decide) (hts _ tw_487) (fun _ h9 => h9) rfl d_p7_6_27 ?_
  refine lv_imul hx hb d_p7_6_30 ?_
  refine lv_topi (fun z_67 ez_67 => ?_)
  obtain rfl : z_67 = (0 : Int32) := ez_67.trans (by decide)
  refine lv_iload_n hx hb d_p7_6_31 rfl (lv_at hl 0 rfl) ?_
  refine lv_iadd hx hb d_p7_6_32 ?_
  refine lv_topi (fun z_68 ez_68 => ?_)
  obtain rfl : z_68 = (11 : Int32) := ez_68.trans (by decide)
  refine lv_iconst (v := 0) hx hb d_p7_6_33 (by decide) ?_
  refine va_zast hx hb hK hP hD hS 1 0 rfl rfl (i := 11) (by unfold vp_in; decide) d_p7_6_34 (fun H locs hP hD hS => ?_)
  have hP : va_P (dC, dI) classes [(qm, .inr (5, [.int 0, .ref z_isArc, .ref z_reaches, .ref z_knotOf, .int 0, .ref z_aheadOf, .ref z_rows, .ref z_deep, .ref z_left, .ref z_partOf, .ref z_sideOf, .ref z_isOdd, .int 0, .ref z_row])), (z_isArc, .inl (kz_isArc, 196, .inl (upd g_66 (Int32.toNatClampNeg 11) (vp_nar .boolean 0))))] H := hP
  have hD : va_D A [(qm, .inr (5, [.int 0, .ref z_isArc, .ref z_reaches, .ref z_knotOf, .int 0, .ref z_aheadOf, .ref z_rows, .ref z_deep, .ref z_left, .ref z_partOf, .ref z_sideOf, .ref z_isOdd, .int 0, .ref z_row])), (z_isArc, .inl (kz_isArc, 196, .inl (upd g_66 (Int32.toNatClampNeg 11) (vp_nar .boolean 0))))] := hD
  generalize (upd g_66 (Int32.toNatClampNeg 11) (vp_nar .boolean 0)) = g_69 at hP hD
  refine lv_aload_n hx hb d_p7_6_35 rfl (lv_at hl 1 rfl) ?_
  refine va_get (D := (dC, dI)) (ci := 5) (v := .ref z_isArc) (C := "StrongPartsModel") (T := T_5) (N := 14) hx hb hts in_5 hown hK hP 0 rfl rfl 1 (by decide) (hts _ tw_488) (fun _ h9 => h9) rfl d_p7_6_36 ?_
  refine lv_bipush (v := 14) hx hb d_p7_6_39 (by decide) ?_
  refine lv_iload_n hx hb d_p7_6_41 rfl (lv_at hl 0 rfl) ?_
  refine lv_imul hx hb d_p7_6_42 ?_
  refine lv_topi (fun z_70 ez_70 => ?_)
  obtain rfl : z_70 = (154 : Int32) := ez_70.trans (by decide)
  refine lv_aload_n hx hb d_p7_6_43 rfl (lv_at hl 1 rfl) ?_
  refine va_get (D := (dC, dI)) (ci := 5) (v := .int 0) (C := "StrongPartsModel") (T := T_5) (N := 14) hx hb hts in_5 hown hK hP 0 rfl rfl 0 (by decide) (hts _ tw_487) (fun _ h9 => h9) rfl d_p7_6_44 ?_
  refine lv_iadd hx hb d_p7_6_47 ?_
  refine lv_topi (fun z_71 ez_71 => ?_)
  obtain rfl : z_71 = (154 : Int32) := ez_71.trans (by decide)
  refine lv_iconst (v := 0) hx hb d_p7_6_48 (by decide) ?_
  refine va_zast hx hb hK hP hD hS 1 0 rfl rfl (i := 154) (by unfold vp_in; decide) d_p7_6_49 (fun H locs hP hD hS => ?_)
  have hP : va_P (dC, dI) classes [(qm, .inr (5, [.int 0, .ref z_isArc, .ref z_reaches, .ref z_knotOf, .int 0, .ref z_aheadOf, .ref z_rows, .ref z_deep, .ref z_left, .ref z_partOf, .ref z_sideOf, .ref z_isOdd, .int 0, .ref z_row])), (z_isArc, .inl (kz_isArc, 196, .inl (upd g_69 (Int32.toNatClampNeg 154) (vp_nar .boolean 0))))] H := hP
  have hD : va_D A [(qm, .inr (5, [.int 0, .ref z_isArc, .ref z_reaches, .ref z_knotOf, .int 0, .ref z_aheadOf, .ref z_rows, .ref z_deep, .ref z_left, .ref z_partOf, .ref z_sideOf, .ref z_isOdd, .int 0, .ref z_row])), (z_isArc, .inl (kz_isArc, 196, .inl (upd g_69 (Int32.toNatClampNeg 154) (vp_nar .boolean 0))))] := hD
  generalize (upd g_69 (Int32.toNatClampNeg 154) (vp_nar .boolean 0)) = g_72 at hP hD
  refine lv_iinc (v := 12) (lv' := [(1, .int 12), (0, .ref qm)]) hx hb d_p7_6_50 hl (k := 0) rfl (by decide) (by decide) rfl (fun ls hl => ?_)
  refine lv_goto (tgt := 14) hx hb d_p7_6_53 (by decide) ?_
  refine lv_iload_n hx hb d_p7_6_14 rfl (lv_at hl 0 rfl) ?_
  refine lv_bipush (v := 14) hx hb d_p7_6_15 (by decide) ?_
  refine lv_icmp_ge (tgt := 56) hx hb d_p7_6_17 (by decide) (fun c => absurd c (by decide)) (fun _ => ?_)
  refine lv_aload_n hx hb d_p7_6_20 rfl (lv_at hl 1 rfl) ?_
  refine va_get (D := (dC, dI)) (ci := 5) (v := .ref z_isArc) (C := "StrongPartsModel") (T := T_5) (N := 14) hx hb hts in_5 hown hK hP 0 rfl rfl 1 (by decide) (hts _ tw_488) (fun _ h9 => h9) rfl d_p7_6_21 ?_
  refine lv_bipush (v := 14) hx hb d_p7_6_24 (by decide) ?_
  refine lv_aload_n hx hb d_p7_6_26 rfl (lv_at hl 1 rfl) ?_
  refine va_get (D := (dC, dI)) (ci := 5) (v := .int 0) (C := "StrongPartsModel") (T := T_5) (N := 14) hx hb hts in_5 hown hK hP 0 rfl rfl 0 (by decide) (hts _ tw_487) (fun _ h9 => h9) rfl d_p7_6_27 ?_
  refine lv_imul hx hb d_p7_6_30 ?_
  refine lv_topi (fun z_73 ez_73 => ?_)
  obtain rfl : z_73 = (0 : Int32) := ez_73.trans (by decide)
  refine lv_iload_n hx hb d_p7_6_31 rfl (lv_at hl 0 rfl) ?_
  refine lv_iadd hx hb d_p7_6_32 ?_
  refine lv_topi (fun z_74 ez_74 => ?_)
  obtain rfl : z_74 = (12 : Int32) := ez_74.trans (by decide)
  refine lv_iconst (v := 0) hx hb d_p7_6_33 (by decide) ?_
  refine va_zast hx hb hK hP hD hS 1 0 rfl rfl (i := 12) (by unfold vp_in; decide) d_p7_6_34 (fun H locs hP hD hS => ?_)
  have hP : va_P (dC, dI) classes [(qm, .inr (5, [.int 0, .ref z_isArc, .ref z_reaches, .ref z_knotOf, .int 0, .ref z_aheadOf, .ref z_rows, .ref z_deep, .ref z_left, .ref z_partOf, .ref z_sideOf, .ref z_isOdd, .int 0, .ref z_row])), (z_isArc, .inl (kz_isArc, 196, .inl (upd g_72 (Int32.toNatClampNeg 12) (vp_nar .boolean 0))))] H := hP
  have hD : va_D A [(qm, .inr (5, [.int 0, .ref z_isArc, .ref z_reaches, .ref z_knotOf, .int 0, .ref z_aheadOf, .ref z_rows, .ref z_deep, .ref z_left, .ref z_partOf, .ref z_sideOf, .ref z_isOdd, .int 0, .ref z_row])), (z_isArc, .inl (kz_isArc, 196, .inl (upd g_72 (Int32.toNatClampNeg 12) (vp_nar .boolean 0))))] := hD
  generalize (upd g_72 (Int32.toNatClampNeg 12) (vp_nar .boolean 0)) = g_75 at hP hD
  refine lv_aload_n hx hb d_p7_6_35 rfl (lv_at hl 1 rfl) ?_
  refine va_get (D := (dC, dI)) (ci := 5) (v := .ref z_isArc) (C := "StrongPartsModel") (T := T_5) (N := 14) hx hb hts in_5 hown hK hP 0 rfl rfl 1 (by decide) (hts _ tw_488) (fun _ h9 => h9) rfl d_p7_6_36 ?_
  refine lv_bipush (v := 14) hx hb d_p7_6_39 (by decide) ?_
  refine lv_iload_n hx hb d_p7_6_41 rfl (lv_at hl 0 rfl) ?_
  refine lv_imul hx hb d_p7_6_42 ?_
  refine lv_topi (fun z_76 ez_76 => ?_)
  obtain rfl : z_76 = (168 : Int32) := ez_76.trans (by decide)
  refine lv_aload_n hx hb d_p7_6_43 rfl (lv_at hl 1 rfl) ?_
  refine va_get (D := (dC, dI)) (ci := 5) (v := .int 0) (C := "StrongPartsModel") (T := T_5) (N := 14) hx hb hts in_5 hown hK hP 0 rfl rfl 0 (by decide) (hts _ tw_487) (fun _ h9 => h9) rfl d_p7_6_44 ?_
  refine lv_iadd hx hb d_p7_6_47 ?_
  refine lv_topi (fun z_77 ez_77 => ?_)
  obtain rfl : z_77 = (168 : Int32) := ez_77.trans (by decide)
  refine lv_iconst (v := 0) hx hb d_p7_6_48 (by decide) ?_
  refine va_zast hx hb hK hP hD hS 1 0 rfl rfl (i := 168) (by unfold vp_in; decide) d_p7_6_49 (fun H locs hP hD hS => ?_)
  have hP : va_P (dC, dI) classes [(qm, .inr (5, [.int 0, .ref z_isArc, .ref z_reaches, .ref z_knotOf, .int 0, .ref z_aheadOf, .ref z_rows, .ref z_deep, .ref z_left, .ref z_partOf, .ref z_sideOf, .ref z_isOdd, .int 0, .ref z_row])), (z_isArc, .inl (kz_isArc, 196, .inl (upd g_75 (Int32.toNatClampNeg 168) (vp_nar .boolean 0))))] H := hP
  have hD : va_D A [(qm, .inr (5, [.int 0, .ref z_isArc, .ref z_reaches, .ref z_knotOf, .int 0, .ref z_aheadOf, .ref z_rows, .ref z_deep, .ref z_left, .ref z_partOf, .ref z_sideOf, .ref z_isOdd, .int 0, .ref z_row])), (z_isArc, .inl (kz_isArc, 196, .inl (upd g_75 (Int32.toNatClampNeg 168) (vp_nar .boolean 0))))] := hD
  generalize (upd g_75 (Int32.toNatClampNeg 168) (vp_nar .boolean 0)) = g_78 at hP hD
  refine lv_iinc (v := 13) (lv' := [(1, .int 13), (0, .ref qm)]) hx hb d_p7_6_50 hl (k := 0) rfl (by decide) (by decide) rfl (fun ls hl => ?_)
  refine lv_goto (tgt := 14) hx hb d_p7_6_53 (by decide) ?_
  refine lv_iload_n hx hb d_p7_6_14 rfl (lv_at hl 0 rfl) ?_
  refine lv_bipush (v := 14) hx hb d_p7_6_15 (by decide) ?_
  refine lv_icmp_ge (tgt := 56) hx hb d_p7_6_17 (by decide) (fun c => absurd c (by decide)) (fun _ => ?_)
  refine lv_aload_n hx hb d_p7_6_20 rfl (lv_at hl 1 rfl) ?_
  refine va_get (D := (dC, dI)) (ci := 5) (v := .ref z_isArc) (C := "StrongPartsModel") (T := T_5) (N := 14) hx hb hts in_5 hown hK hP 0 rfl rfl 1 (by decide) (hts _ tw_488) (fun _ h9 => h9) rfl d_p7_6_21 ?_
  refine lv_bipush (v := 14) hx hb d_p7_6_24 (by decide) ?_
  refine lv_aload_n hx hb d_p7_6_26 rfl (lv_at hl 1 rfl) ?_
  refine va_get (D := (dC, dI)) (ci := 5) (v := .int 0) (C := "StrongPartsModel") (T := T_5) (N := 14) hx hb hts in_5 hown hK hP 0 rfl rfl 0 (by decide) (hts _ tw_487) (fun _ h9 => h9) rfl d_p7_6_27 ?_
  refine lv_imul hx hb d_p7_6_30 ?_
  refine lv_topi (fun z_79 ez_79 => ?_)
  obtain rfl : z_79 = (0 : Int32) := ez_79.trans (by decide)
  refine lv_iload_n hx hb d_p7_6_31 rfl (lv_at hl 0 rfl) ?_
  refine lv_iadd hx hb d_p7_6_32 ?_
  refine lv_topi (fun z_80 ez_80 => ?_)
  obtain rfl : z_80 = (13 : Int32) := ez_80.trans (by decide)
  refine lv_iconst (v := 0) hx hb d_p7_6_33 (by decide) ?_
  refine va_zast hx hb hK hP hD hS 1 0 rfl rfl (i := 13) (by unfold vp_in; decide) d_p7_6_34 (fun H locs hP hD hS => ?_)
  have hP : va_P (dC, dI) classes [(qm, .inr (5, [.int 0, .ref z_isArc, .ref z_reaches, .ref z_knotOf, .int 0, .ref z_aheadOf, .ref z_rows, .ref z_deep, .ref z_left, .ref z_partOf, .ref z_sideOf, .ref z_isOdd, .int 0, .ref z_row])), (z_isArc, .inl (kz_isArc, 196, .inl (upd g_78 (Int32.toNatClampNeg 13) (vp_nar .boolean 0))))] H := hP
  have hD : va_D A [(qm, .inr (5, [.int 0, .ref z_isArc, .ref z_reaches, .ref z_knotOf, .int 0, .ref z_aheadOf, .ref z_rows, .ref z_deep, .ref z_left, .ref z_partOf, .ref z_sideOf, .ref z_isOdd, .int 0, .ref z_row])), (z_isArc, .inl (kz_isArc, 196, .inl (upd g_78 (Int32.toNatClampNeg 13) (vp_nar .boolean 0))))] := hD
  generalize (upd g_78 (Int32.toNatClampNeg 13) (vp_nar .boolean 0)) = g_81 at hP hD
  refine lv_aload_n hx hb d_p7_6_35 rfl (lv_at hl 1 rfl) ?_
  refine va_get (D := (dC, dI)) (ci := 5) (v := .ref z_isArc) (C := "StrongPartsModel") (T := T_5) (N := 14) hx hb hts in_5 hown hK hP 0 rfl rfl 1 (by decide) (hts _ tw_488) (fun _ h9 => h9) rfl d_p7_6_36 ?_
  refine lv_bipush (v := 14) hx hb d_p7_6_39 (by decide) ?_
  refine lv_iload_n hx hb d_p7_6_41 rfl (lv_at hl 0 rfl) ?_
  refine lv_imul hx hb d_p7_6_42 ?_
  refine lv_topi (fun z_82 ez_82 => ?_)
  obtain rfl : z_82 = (182 : Int32) := ez_82.trans (by decide)
  refine lv_aload_n hx hb d_p7_6_43 rfl (lv_at hl 1 rfl) ?_
  refine va_get (D := (dC, dI)) (ci := 5) (v := .int 0) (C := "StrongPartsModel") (T := T_5) (N := 14) hx hb hts in_5 hown hK hP 0 rfl rfl 0 (by decide) (hts _ tw_487) (fun _ h9 => h9) rfl d_p7_6_44 ?_
  refine lv_iadd hx hb d_p7_6_47 ?_
  refine lv_topi (fun z_83 ez_83 => ?_)
  obtain rfl : z_83 = (182 : Int32) := ez_83.trans (by decide)
  refine lv_iconst (v := 0) hx hb d_p7_6_48 (by decide) ?_
  refine va_zast hx hb hK hP hD hS 1 0 rfl rfl (i := 182) (by unfold vp_in; decide) d_p7_6_49 (fun H locs hP hD hS => ?_)
  have hP : va_P (dC, dI) classes [(qm, .inr (5, [.int 0, .ref z_isArc, .ref z_reaches, .ref z_knotOf, .int 0, .ref z_aheadOf, .ref z_rows, .ref z_deep, .ref z_left, .ref z_partOf, .ref z_sideOf, .ref z_isOdd, .int 0, .ref z_row])), (z_isArc, .inl (kz_isArc, 196, .inl (upd g_81 (Int32.toNatClampNeg 182) (vp_nar .boolean 0))))] H := hP
  have hD : va_D A [(qm, .inr (5, [.int 0, .ref z_isArc, .ref z_reaches, .ref z_knotOf, .int 0, .ref z_aheadOf, .ref z_rows, .ref z_deep, .ref z_left, .ref z_partOf, .ref z_sideOf, .ref z_isOdd, .int 0, .ref z_row])), (z_isArc, .inl (kz_isArc, 196, .inl (upd g_81 (Int32.toNatClampNeg 182) (vp_nar .boolean 0))))] := hD
  generalize (upd g_81 (Int32.toNatClampNeg 182) (vp_nar .boolean 0)) = g_84 at hP hD
  refine lv_iinc (v := 14) (lv' := [(1, .int 14), (0, .ref qm)]) hx hb d_p7_6_50 hl (k := 0) rfl (by decide) (by decide) rfl (fun ls hl => ?_)
  refine lv_goto (tgt := 14) hx hb d_p7_6_53 (by decide) ?_
  refine lv_iload_n hx hb d_p7_6_14 rfl (lv_at hl 0 rfl) ?_
  refine lv_bipush (v := 14) hx hb d_p7_6_15 (by decide) ?_
  refine lv_icmp_ge (tgt := 56) hx hb d_p7_6_17 (by decide) (fun _ => ?_) (fun c => absurd (by decide) c)
  refine lv_aload_n hx hb d_p7_6_56 rfl (lv_at hl 1 rfl) ?_
  refine lv_dup hx hb d_p7_6_57 rfl ?_
  refine va_get (D := (dC, dI)) (ci := 5) (v := .int 0) (C := "StrongPartsModel") (T := T_5) (N := 14) hx hb hts in_5 hown hK hP 0 rfl rfl 0 (by decide) (hts _ tw_487) (fun _ h9 => h9) rfl d_p7_6_58 ?_
  refine lv_iconst (v := 1) hx hb d_p7_6_61 (by decide) ?_
  refine lv_iadd hx hb d_p7_6_62 ?_
  refine lv_topi (fun z_85 ez_85 => ?_)
  obtain rfl : z_85 = (1 : Int32) := ez_85.trans (by decide)
  refine va_put (D := (dC, dI)) (ci := 5) (v := .int 1) (ty := .int) (C := "StrongPartsModel") (T := T_5) (N := 14) hx hb hts in_5 t_5 t_5_ok n_5 hown hK hP hD hS 0 rfl rfl 0 (by decide) (hts _ tw_487) (fun _ h9 => h9) rfl (by decide +kernel) rfl rfl (Nat.le_of_ble_eq_true rfl) d_p7_6_63 (fun H locs hP hD hS => ?_)
  have hP : va_P (dC, dI) classes [(qm, .inr (5, [.int 1, .ref z_isArc, .ref z_reaches, .ref z_knotOf, .int 0, .ref z_aheadOf, .ref z_rows, .ref z_deep, .ref z_left, .ref z_partOf, .ref z_sideOf, .ref z_isOdd, .int 0, .ref z_row])), (z_isArc, .inl (kz_isArc, 196, .inl g_84))] H := hP
  have hD : va_D A [(qm, .inr (5, [.int 1, .ref z_isArc, .ref z_reaches, .ref z_knotOf, .int 0, .ref z_aheadOf, .ref z_rows, .ref z_deep, .ref z_left, .ref z_partOf, .ref z_sideOf, .ref z_isOdd, .int 0, .ref z_row])), (z_isArc, .inl (kz_isArc, 196, .inl g_84))] := hD
  refine lv_aload_n hx hb d_p7_6_66 rfl (lv_at hl 1 rfl) ?_
  refine va_get (D := (dC, dI)) (ci := 5) (v := .int 1) (C := "StrongPartsModel") (T := T_5) (N := 14) hx hb hts in_5 hown hK hP 0 rfl rfl 0 (by decide) (hts _ tw_487) (fun _ h9 => h9) rfl d_p7_6_67 ?_
  refine lv_iconst (v := 1) hx hb d_p7_6_70 (by decide) ?_
  refine lv_isub hx hb d_p7_6_71 ?_
  refine lv_topi (fun z_86 ez_86 => ?_)
  obtain rfl : z_86 = (0 : Int32) := ez_86.trans (by decide)
  have hP9 := hP.sub (ws' := []) [] rfl
  have hD9 := hD.sub (ws' := []) [] (by decide) rfl
  have hK9 := hK.sub (tys' := []) [] rfl
  exact W.iret (v := 0) hx hb hr (fun t ht hW => ⟨⟨0, (), rfl, rfl, cEnd_mk hP9 hK9 hD9 ht hW⟩, hS.F ht⟩) hS.2.2 d_p7_6_72
