set_option maxHeartbeats 4000000 in
set_option maxRecDepth 100000 in
theorem law_head {p : Program} {l : Launch} {e : Env} {s : State} {m : MethodId} {below : List Frame} {meth : Method} {c : Code} {b : Nat} {xs : Nat → Int32} {A : Nat → Prop} {H : Heap} {locs : List Loc} {ls : Array Slot} {L : Nat} (hL : L ≤ 4) {dC : Nat → ClassId} {dI : Nat → Nat → Nat} {qg ao ai an qr as_ qk ab ac ql al qx qm z_isArc z_reaches z_knotOf z_aheadOf z_rows z_deep z_left z_partOf z_sideOf z_isOdd z_row : Nat} {ko ki kn ks kb kc kl kz_isArc kz_reaches kz_knotOf kz_aheadOf kz_rows kz_deep kz_left kz_partOf kz_sideOf kz_isOdd kz_row : ClassId} (C0 : lw_At p s m meth c b L xs) (hAe : A = fun q : Nat => s.heap.size ≤ q) (hK : va_K (dC, dI) classes [(ko, .int), (ki, .int), (kn, .int), (ks, .int), (kb, .int), (kc, .long), (kl, .int), (kz_isArc, .boolean), (kz_reaches, .boolean), (kz_knotOf, .int), (kz_aheadOf, .int), (kz_rows, .long), (kz_deep, .int), (kz_left, .int), (kz_partOf, .int), (kz_sideOf, .int), (kz_isOdd, .boolean), (kz_row, .int)] s) (hN : Nst s) (hP : va_P (dC, dI) classes [(qx, .inr (4, [.ref qg, .ref qr, .ref qk, .ref ql])), (qg, .inr (0, [.ref ao, .ref ai, .ref an, .int 0, .int 0])), (ao, .inl (ko, 15, .inl (fun _ => 0))), (ai, .inl (ki, 15, .inl (fun _ => 0))), (an, .inl (kn, 15, .inl (fun _ => 0))), (qr, .inr (1, [.ref as_, .int 0])), (as_, .inl (ks, 15, .inl (fun _ => 0))), (qk, .inr (2, [.ref ab, .int 0, .ref ac])), (ab, .inl (kb, 15, .inl (fun _ => 0))), (ac, .inl (kc, 1, .inr (.inl (fun _ => 0)))), (ql, .inr (3, [.ref al])), (al, .inl (kl, 16, .inl (fun _ => 0))), (qm, .inr (5, [.int 0, .ref z_isArc, .ref z_reaches, .ref z_knotOf, .int 0, .ref z_aheadOf, .ref z_rows, .ref z_deep, .ref z_left, .ref z_partOf, .ref z_sideOf, .ref z_isOdd, .int 0, .ref z_row])), (z_isArc, .inl (kz_isArc, 196, .inl (fun _ => 0))), (z_reaches, .inl (kz_reaches, 196, .inl (fun _ => 0))), (z_knotOf, .inl (kz_knotOf, 14, .inl (fun _ => 0))), (z_aheadOf, .inl (kz_aheadOf, 14, .inl (fun _ => 0))), (z_rows, .inl (kz_rows, 16384, .inr (.inl (fun _ => 0)))), (z_deep, .inl (kz_deep, 14, .inl (fun _ => 0))), (z_left, .inl (kz_left, 14, .inl (fun _ => 0))), (z_partOf, .inl (kz_partOf, 14, .inl (fun _ => 0))), (z_sideOf, .inl (kz_sideOf, 14, .inl (fun _ => 0))), (z_isOdd, .inl (kz_isOdd, 14, .inl (fun _ => 0))), (z_row, .inl (kz_row, 14, .inl (fun _ => 0)))] H) (hD : va_D A [(qx, .inr (4, [.ref qg, .ref qr, .ref qk, .ref ql])), (qg, .inr (0, [.ref ao, .ref ai, .ref an, .int 0, .int 0])), (ao, .inl (ko, 15, .inl (fun _ => 0))), (ai, .inl (ki, 15, .inl (fun _ => 0))), (an, .inl (kn, 15, .inl (fun _ => 0))), (qr, .inr (1, [.ref as_, .int 0])), (as_, .inl (ks, 15, .inl (fun _ => 0))), (qk, .inr (2, [.ref ab, .int 0, .ref ac])), (ab, .inl (kb, 15, .inl (fun _ => 0))), (ac, .inl (kc, 1, .inr (.inl (fun _ => 0)))), (ql, .inr (3, [.ref al])), (al, .inl (kl, 16, .inl (fun _ => 0))), (qm, .inr (5, [.int 0, .ref z_isArc, .ref z_reaches, .ref z_knotOf, .int 0, .ref z_aheadOf, .ref z_rows, .ref z_deep, .ref z_left, .ref z_partOf, .ref z_sideOf, .ref z_isOdd, .int 0, .ref z_row])), (z_isArc, .inl (kz_isArc, 196, .inl (fun _ => 0))), (z_reaches, .inl (kz_reaches, 196, .inl (fun _ => 0))), (z_knotOf, .inl (kz_knotOf, 14, .inl (fun _ => 0))), (z_aheadOf, .inl (kz_aheadOf, 14, .inl (fun _ => 0))), (z_rows, .inl (kz_rows, 16384, .inr (.inl (fun _ => 0)))), (z_deep, .inl (kz_deep, 14, .inl (fun _ => 0))), (z_left, .inl (kz_left, 14, .inl (fun _ => 0))), (z_partOf, .inl (kz_partOf, 14, .inl (fun _ => 0))), (z_sideOf, .inl (kz_sideOf, 14, .inl (fun _ => 0))), (z_isOdd, .inl (kz_isOdd, 14, .inl (fun _ => 0))), (z_row, .inl (kz_row, 14, .inl (fun _ => 0)))]) (hS : va_S A s.heap H locs) (hl : lv_has ls 4 [(3, .int 0), (2, .ref qm), (1, .ref qx), (0, .ref b)]) : W p l e room_1 s m #[Value.ref b] below meth c H locs 600000 7302250 (lw_Z below #[Value.ref b] s) (F0 m 18 ls []) := by
  obtain ⟨hx, hb, hr, hml, hown, hts0, hX, hbl, hlocks, hgv⟩ := id C0
  have hown : s.vm.findClass "StrongPartsLaw" = some m.cls := hown
  have hts : ∀ w ∈ lw_good, w.before #[Value.ref b] s = true := fun w h => hts0 w (lw_good_iff.mp h).1
  have hA : ∀ q : Nat, s.heap.size ≤ q → A q := fun q h => by rw [hAe]; exact h
  have hbA : ¬ A b := by rw [hAe]; exact Nat.not_le.mpr hbl
  rcases (show L = 0 ∨ L = 1 ∨ L = 2 ∨ L = 3 ∨ L = 4 by omega) with rfl | rfl | rfl | rfl | rfl
  · refine lv_iload_n hx hb d_code_18 rfl (lv_at hl 0 rfl) ?_
    refine lv_aload_n hx hb d_code_19 rfl (lv_at hl 3 rfl) ?_
    refine va_slen hx hb hX hbl hbA hS d_code_20 ?_
    refine lv_topi (fun z_1 ez_1 => ?_)
    obtain rfl : z_1 = (0 : Int32) := ez_1.trans (by decide)
    refine lv_iconst (v := 4) hx hb d_code_21 (by decide) ?_
    refine lv_isub hx hb d_code_22 ?_
    refine lv_topi (fun z_2 ez_2 => ?_)
    obtain rfl : z_2 = ((-4) : Int32) := ez_2.trans (by decide)
    refine lv_icmp_gt (tgt := 764) hx hb d_code_23 (by decide) (fun _ => ?_) (fun c => absurd (by decide) c)
    exact law_done C0 hAe hS
  · refine lv_iload_n hx hb d_code_18 rfl (lv_at hl 0 rfl) ?_
    refine lv_aload_n hx hb d_code_19 rfl (lv_at hl 3 rfl) ?_
    refine va_slen hx hb hX hbl hbA hS d_code_20 ?_
    refine lv_topi (fun z_1 ez_1 => ?_)
    obtain rfl : z_1 = (1 : Int32) := ez_1.trans (by decide)
    refine lv_iconst (v := 4) hx hb d_code_21 (by decide) ?_
    refine lv_isub hx hb d_code_22 ?_
    refine lv_topi (fun z_2 ez_2 => ?_)
    obtain rfl : z_2 = ((-3) : Int32) := ez_2.trans (by decide)
    refine lv_icmp_gt (tgt := 764) hx hb d_code_23 (by decide) (fun _ => ?_) (fun c => absurd (by decide) c)
    exact law_done C0 hAe hS
  · refine lv_iload_n hx hb d_code_18 rfl (lv_at hl 0 rfl) ?_
    refine lv_aload_n hx hb d_code_19 rfl (lv_at hl 3 rfl) ?_
    refine va_slen hx hb hX hbl hbA hS d_code_20 ?_
    refine lv_topi (fun z_1 ez_1 => ?_)
    obtain rfl : z_1 = (2 : Int32) := ez_1.trans (by decide)
    refine lv_iconst (v := 4) hx hb d_code_21 (by decide) ?_
    refine lv_isub hx hb d_code_22 ?_
    refine lv_topi (fun z_2 ez_2 => ?_)
    obtain rfl : z_2 = ((-2) : Int32) := ez_2.trans (by decide)
    refine lv_icmp_gt (tgt := 764) hx hb d_code_23 (by decide) (fun _ => ?_) (fun c => absurd (by decide) c)
    exact law_done C0 hAe hS
  · refine lv_iload_n hx hb d_code_18 rfl (lv_at hl 0 rfl) ?_
    refine lv_aload_n hx hb d_code_19 rfl (lv_at hl 3 rfl) ?_
    refine va_slen hx hb hX hbl hbA hS d_code_20 ?_
    refine lv_topi (fun z_1 ez_1 => ?_)
    obtain rfl : z_1 = (3 : Int32) := ez_1.trans (by decide)
    refine lv_iconst (v := 4) hx hb d_code_21 (by decide) ?_
    refine lv_isub hx hb d_code_22 ?_
    refine lv_topi (fun z_2 ez_2 => ?_)
    obtain rfl : z_2 = ((-1) : Int32) := ez_2.trans (by decide)
    refine lv_icmp_gt (tgt := 764) hx hb d_code_23 (by decide) (fun _ => ?_) (fun c => absurd (by decide) c)
    exact law_done C0 hAe hS
  · refine lv_iload_n hx hb d_code_18 rfl (lv_at hl 0 rfl) ?_
    refine lv_aload_n hx hb d_code_19 rfl (lv_at hl 3 rfl) ?_
    refine va_slen hx hb hX hbl hbA hS d_code_20 ?_
    refine lv_topi (fun z_1 ez_1 => ?_)
    obtain rfl : z_1 = (4 : Int32) := ez_1.trans (by decide)
    refine lv_iconst (v := 4) hx hb d_code_21 (by decide) ?_
    refine lv_isub hx hb d_code_22 ?_
    refine lv_topi (fun z_2 ez_2 => ?_)
    obtain rfl : z_2 = (0 : Int32) := ez_2.trans (by decide)
    refine lv_icmp_gt (tgt := 764) hx hb d_code_23 (by decide) (fun c => absurd c (by decide)) (fun _ => ?_)
    refine lv_aload_n hx hb d_code_26 rfl (lv_at hl 3 rfl) ?_
    refine lv_iload_n hx hb d_code_27 rfl (lv_at hl 0 rfl) ?_
    refine va_sld hx hb hX hbl hbA hS (i := 0) (by unfold vp_in; decide) d_code_28 ?_
    refine lv_bipush (v := 31) hx hb d_code_29 (by decide) ?_
    refine lv_iand hx hb d_code_31 ?_
    refine lv_topi (fun z_3 ez_3 => ?_)
    obtain ⟨j, hj, hz⟩ := pk_andE (xs (Int32.toNatClampNeg 0)) (m := 31) 5 (by decide)
    obtain rfl : z_3 = nI j := ez_3.trans hz
    clear ez_3 hz
    rcases (show j = 0 ∨ j = 1 ∨ j = 2 ∨ j = 3 ∨ j = 4 ∨ j = 5 ∨ j = 6 ∨ j = 7 ∨ j = 8 ∨ j = 9 ∨ j = 10 ∨ j = 11 ∨ j = 12 ∨ j = 13 ∨ j = 14 ∨ j = 15 ∨ j = 16 ∨ j = 17 ∨ j = 18 ∨ j = 19 ∨ j = 20 ∨ j = 21 ∨ j = 22 ∨ j = 23 ∨ j = 24 ∨ j = 25 ∨ j = 26 ∨ 27 ≤ j by omega) with rfl | rfl | rfl | rfl | rfl | rfl | rfl | rfl | rfl | rfl | rfl | rfl | rfl | rfl | rfl | rfl | rfl | rfl | rfl | rfl | rfl | rfl | rfl | rfl | rfl | rfl | rfl | hj2
    · refine lv_tableIn (off := 124) (tgt := 156) hx hb d_code_32 (by decide) (by decide) (by decide) (by decide) ?_
      exact law_0 C0 hAe hK hN hP hD hS hl
    · refine lv_tableIn (off := 137) (tgt := 169) hx hb d_code_32 (by decide) (by decide) (by decide) (by decide) ?_
      exact law_1 C0 hAe hK hN hP hD hS hl
    · refine lv_tableIn (off := 150) (tgt := 182) hx hb d_code_32 (by decide) (by decide) (by decide) (by decide) ?_
      exact law_2 C0 hAe hK hN hP hD hS hl
    · refine lv_tableIn (off := 183) (tgt := 215) hx hb d_code_32 (by decide) (by decide) (by decide) (by decide) ?_
      exact law_3 C0 hAe hK hN hP hD hS hl
    · refine lv_tableIn (off := 216) (tgt := 248) hx hb d_code_32 (by decide) (by decide) (by decide) (by decide) ?_
      exact law_4 C0 hAe hK hN hP hD hS hl
    · refine lv_tableIn (off := 229) (tgt := 261) hx hb d_code_32 (by decide) (by decide) (by decide) (by decide) ?_
      exact law_5 C0 hAe hK hN hP hD hS hl
    · refine lv_tableIn (off := 252) (tgt := 284) hx hb d_code_32 (by decide) (by decide) (by decide) (by decide) ?_
      exact law_6 C0 hAe hK hN hP hD hS hl
    · refine lv_tableIn (off := 275) (tgt := 307) hx hb d_code_32 (by decide) (by decide) (by decide) (by decide) ?_
      exact law_7 C0 hAe hK hN hP hD hS hl
    · refine lv_tableIn (off := 298) (tgt := 330) hx hb d_code_32 (by decide) (by decide) (by decide) (by decide) ?_
      exact law_8 C0 hAe hK hN hP hD hS hl
    · refine lv_tableIn (off := 312) (tgt := 344) hx hb d_code_32 (by decide) (by decide) (by decide) (by decide) ?_
      exact law_9 C0 hAe hK hN hP hD hS hl
    · refine lv_tableIn (off := 325) (tgt := 357) hx hb d_code_32 (by decide) (by decide) (by decide) (by decide) ?_
      exact law_10 C0 hAe hK hN hP hD hS hl
    · refine lv_tableIn (off := 358) (tgt := 390) hx hb d_code_32 (by decide) (by decide) (by decide) (by decide) ?_
      exact law_11 C0 hAe hK hN hP hD hS hl
    · refine lv_tableIn (off := 401) (tgt := 433) hx hb d_code_32 (by decide) (by decide) (by decide) (by decide) ?_
      exact law_12 C0 hAe hK hN hP hD hS hl
    · refine lv_tableIn (off := 434) (tgt := 466) hx hb d_code_32 (by decide) (by decide) (by decide) (by decide) ?_
      exact law_13 C0 hAe hK hN hP hD hS hl
    · refine lv_tableIn (off := 457) (tgt := 489) hx hb d_code_32 (by decide) (by decide) (by decide) (by decide) ?_
      exact law_14 C0 hAe hK hN hP hD hS hl
    · refine lv_tableIn (off := 470) (tgt := 502) hx hb d_code_32 (by decide) (by decide) (by decide) (by decide) ?_
      exact law_15 C0 hAe hK hN hP hD hS hl
    · refine lv_tableIn (off := 493) (tgt := 525) hx hb d_code_32 (by decide) (by decide) (by decide) (by decide) ?_
      exact law_16 C0 hAe hK hN hP hD hS hl
    · refine lv_tableIn (off := 516) (tgt := 548) hx hb d_code_32 (by decide) (by decide) (by decide) (by decide) ?_
      exact law_17 C0 hAe hK hN hP hD hS hl
    · refine lv_tableIn (off := 529) (tgt := 561) hx hb d_code_32 (by decide) (by decide) (by decide) (by decide) ?_
      exact law_18 C0 hAe hK hN hP hD hS hl
    · refine lv_tableIn (off := 552) (tgt := 584) hx hb d_code_32 (by decide) (by decide) (by decide) (by decide) ?_
      exact law_19 C0 hAe hK hN hP hD hS hl
    · refine lv_tableIn (off := 565) (tgt := 597) hx hb d_code_32 (by decide) (by decide) (by decide) (by decide) ?_
      exact law_20 C0 hAe hK hN hP hD hS hl
    · refine lv_tableIn (off := 578) (tgt := 610) hx hb d_code_32 (by decide) (by decide) (by decide) (by decide) ?_
      exact law_21 C0 hAe hK hN hP hD hS hl
    · refine lv_tableIn (off := 591) (tgt := 623) hx hb d_code_32 (by decide) (by decide) (by decide) (by decide) ?_
      exact law_22 C0 hAe hK hN hP hD hS hl
    · refine lv_tableIn (off := 624) (tgt := 656) hx hb d_code_32 (by decide) (by decide) (by decide) (by decide) ?_
      exact law_23 C0 hAe hK hN hP hD hS hl
    · refine lv_tableIn (off := 657) (tgt := 689) hx hb d_code_32 (by decide) (by decide) (by decide) (by decide) ?_
      exact law_24 C0 hAe hK hN hP hD hS hl
    · refine lv_tableIn (off := 690) (tgt := 722) hx hb d_code_32 (by decide) (by decide) (by decide) (by decide) ?_
      exact law_25 C0 hAe hK hN hP hD hS hl
    · refine lv_tableIn (off := 703) (tgt := 735) hx hb d_code_32 (by decide) (by decide) (by decide) (by decide) ?_
      exact law_26 C0 hAe hK hN hP hD hS hl
    · refine lv_tableOut (tgt := 758) hx hb d_code_32 (Or.inr (by rw [nI_toInt (by omega)]; omega)) (by decide) ?_
      exact law_back C0 hAe hS hl
