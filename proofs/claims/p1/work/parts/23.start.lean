set_option maxHeartbeats 4000000 in
set_option maxRecDepth 100000 in
theorem whole_start {p : Program} {e : Env} {s : State} {m : MethodId} {below : List Frame} {meth : Method} {c : Code} (l : Launch) {b L : Nat} {xs : Nat → Int32} (hL : L ≤ 4) (C0 : lw_At p s m meth c b L xs) : W p l e room_1 s m #[Value.ref b] below meth c s.heap [] 0 0 (lw_Z below #[Value.ref b] s) (entryFrame m ([Value.ref b] : List Value).toArray 4) := by
  obtain ⟨A, hAe⟩ : ∃ A : Nat → Prop, A = fun q : Nat => s.heap.size ≤ q := ⟨_, rfl⟩
  obtain ⟨hx, hb, hr, hml, hown, hts0, hX, hbl, hlocks, hgv⟩ := id C0
  have hown : s.vm.findClass "StrongPartsLaw" = some m.cls := hown
  have hts : ∀ w ∈ lw_good, w.before #[Value.ref b] s = true := fun w h => hts0 w (lw_good_iff.mp h).1
  have hA : ∀ q : Nat, s.heap.size ≤ q → A q := fun q h => by rw [hAe]; exact h
  have hbA : ¬ A b := by rw [hAe]; exact Nat.not_le.mpr hbl
  obtain ⟨c0, iS0, hKn0⟩ := u_known (C := "StrongParts$Graph") (T := T_0) (N := 5) (n := 5) hts in_0 (hts _ tw_73)
  obtain ⟨c1, iS1, hKn1⟩ := u_known (C := "StrongParts$Groups") (T := T_1) (N := 2) (n := 2) hts in_1 (hts _ tw_103)
  obtain ⟨c2, iS2, hKn2⟩ := u_known (C := "StrongParts$KnotOrder") (T := T_2) (N := 3) (n := 3) hts in_2 (hts _ tw_120)
  obtain ⟨c3, iS3, hKn3⟩ := u_known (C := "StrongParts$Layers") (T := T_3) (N := 1) (n := 1) hts in_3 (hts _ tw_138)
  obtain ⟨c4, iS4, hKn4⟩ := u_known (C := "StrongParts") (T := T_4) (N := 4) (n := 4) hts in_4 (hts _ tw_65)
  obtain ⟨c5, iS5, hKn5⟩ := u_known (C := "StrongPartsModel") (T := T_5) (N := 14) (n := 14) hts in_5 (hts _ tw_482)
  obtain ⟨dC, dI, hKc⟩ : ∃ (dC : Nat → ClassId) (dI : Nat → Nat → Nat), ∀ (k : Nat) (q : vw_C), classes[k]? = some q → u_Kn s q.1 q.2.1 q.2.2 (dC k) (dI k) := by
    refine ⟨fun k => if k = 0 then c0 else if k = 1 then c1 else if k = 2 then c2 else if k = 3 then c3 else if k = 4 then c4 else c5, fun k => if k = 0 then iS0 else if k = 1 then iS1 else if k = 2 then iS2 else if k = 3 then iS3 else if k = 4 then iS4 else iS5, ?_⟩
    intro k q hq
    match k, hq with
    | 0, hq => cases hq; exact hKn0
    | 1, hq => cases hq; exact hKn1
    | 2, hq => cases hq; exact hKn2
    | 3, hq => cases hq; exact hKn3
    | 4, hq => cases hq; exact hKn4
    | 5, hq => cases hq; exact hKn5
    | k + 6, hq => simp [classes] at hq
  have hN : Nst s := Nst.start hts0
  have hS : va_S A s.heap s.heap [] := va_S.rf
  have hK : va_K (dC, dI) classes [] s := ⟨hKc, fun k q h => by simp at h⟩
  have hP : va_P (dC, dI) classes [] s.heap := fun k q h => by simp at h
  have hD : va_D A [] := ⟨fun i j p q h => by simp at h, fun k q h => by simp at h⟩
  have hl := lv_entry ([.ref b]) (n := 4) (Nat.le_of_ble_eq_true rfl)
  rw [lg_entry_eq]
  generalize (lg_sl ([.ref b]) ++ List.replicate (4 - (lg_sl ([.ref b])).length) Slot.unset).toArray = ls at hl ⊢
  have hl : lv_has ls 4 [(0, .ref b)] := hl
  refine va_new (ci := 4) (fs := [.null, .null, .null, .null]) (C := "StrongParts") (T := T_4) (N := 4) hx hb hts in_4 t_4 t_4_ok hown (hts _ tw_64) (hts _ tw_65) (hts _ tw_55) hK hP hD hS hA rfl (fun j hj => dv_4 j hj) (Nat.le_of_ble_eq_true rfl) (Nat.le_of_ble_eq_true rfl) d_code_0 (fun qx H hP hD hS => ?_)
  have hP : va_P (dC, dI) classes [(qx, .inr (4, [.null, .null, .null, .null]))] H := hP
  have hD : va_D A [(qx, .inr (4, [.null, .null, .null, .null]))] := hD
  refine W.widen (k := 1) (n := 4) (Nat.le_of_ble_eq_true rfl) (Nat.le_of_ble_eq_true rfl) ?_
  refine lv_dup hx hb d_code_3 rfl ?_
  have hPc := hP.sub (ws' := [(qx, .inr (4, [.null, .null, .null, .null]))]) [0] rfl
  have hDc := hD.sub (ws' := [(qx, .inr (4, [.null, .null, .null, .null]))]) [0] (by decide) rfl
  have hKc := hK.sub (tys' := []) [] rfl
  have hFc := va_free (wc := [(qx, .inr (4, [.null, .null, .null, .null]))]) hD hS hA [0] rfl
  refine va_callv (va_runI (As := []) (rest := [.ref qx]) ⟨hx, hb, hml, hown, hts⟩ (c_X_init l dC dI qx H.size) (cwI 0 hts (gd_68) rfl rfl rfl (hts _ tw_55) (hts _ tw_66) (hts _ tw_67) rfl (by decide +kernel) ⟨Nat.le_of_ble_eq_true rfl, Nat.le_of_ble_eq_true rfl⟩) ⟨cPre_blind, cPre_pre hPc hKc hDc hN⟩ rfl rfl hl.1 rfl (lv_room (Nat.le_of_ble_eq_true rfl)) d_code_4 ⟨Nat.le_of_ble_eq_true rfl, Nat.le_of_ble_eq_true rfl⟩) hS (fun q _ h => hFc q h) hFc (fun u t H1 locs ht hvm hw hB hz1 hk1 hS => ?_)
  obtain ⟨qg, ao, ai, an, qr, as_, qk, ab, ac, ql, al, ko, ki, kn, ks, kb, kc, kl, hP1, hK1, hD1⟩ := hB
  rw [ht] at hP1
  obtain ⟨hP, hD⟩ := va_join (wr := []) (w1 := [(qx, .inr (4, [.ref qg, .ref qr, .ref qk, .ref ql])), (qg, .inr (0, [.ref ao, .ref ai, .ref an, .int 0, .int 0])), (ao, .inl (ko, 15, .inl (fun _ => 0))), (ai, .inl (ki, 15, .inl (fun _ => 0))), (an, .inl (kn, 15, .inl (fun _ => 0))), (qr, .inr (1, [.ref as_, .int 0])), (as_, .inl (ks, 15, .inl (fun _ => 0))), (qk, .inr (2, [.ref ab, .int 0, .ref ac])), (ab, .inl (kb, 15, .inl (fun _ => 0))), (ac, .inl (kc, 1, .inr (.inl (fun _ => 0)))), (ql, .inr (3, [.ref al])), (al, .inl (kl, 16, .inl (fun _ => 0)))]) hP hD [0] [] rfl rfl (by decide) (by decide) hk1 hFc hP1 hD1
  generalize H1 = H at hP hS ⊢
  have hP : va_P (dC, dI) classes [(qx, .inr (4, [.ref qg, .ref qr, .ref qk, .ref ql])), (qg, .inr (0, [.ref ao, .ref ai, .ref an, .int 0, .int 0])), (ao, .inl (ko, 15, .inl (fun _ => 0))), (ai, .inl (ki, 15, .inl (fun _ => 0))), (an, .inl (kn, 15, .inl (fun _ => 0))), (qr, .inr (1, [.ref as_, .int 0])), (as_, .inl (ks, 15, .inl (fun _ => 0))), (qk, .inr (2, [.ref ab, .int 0, .ref ac])), (ab, .inl (kb, 15, .inl (fun _ => 0))), (ac, .inl (kc, 1, .inr (.inl (fun _ => 0)))), (ql, .inr (3, [.ref al])), (al, .inl (kl, 16, .inl (fun _ => 0)))] H := hP
  have hD : va_D A [(qx, .inr (4, [.ref qg, .ref qr, .ref qk, .ref ql])), (qg, .inr (0, [.ref ao, .ref ai, .ref an, .int 0, .int 0])), (ao, .inl (ko, 15, .inl (fun _ => 0))), (ai, .inl (ki, 15, .inl (fun _ => 0))), (an, .inl (kn, 15, .inl (fun _ => 0))), (qr, .inr (1, [.ref as_, .int 0])), (as_, .inl (ks, 15, .inl (fun _ => 0))), (qk, .inr (2, [.ref ab, .int 0, .ref ac])), (ab, .inl (kb, 15, .inl (fun _ => 0))), (ac, .inl (kc, 1, .inr (.inl (fun _ => 0)))), (ql, .inr (3, [.ref al])), (al, .inl (kl, 16, .inl (fun _ => 0)))] := hD
  have hK := hK.app (va_K.moved hvm.symm hK1)
  have hK : va_K (dC, dI) classes [(ko, .int), (ki, .int), (kn, .int), (ks, .int), (kb, .int), (kc, .long), (kl, .int)] s := hK
  refine W.widen (k := 12) (n := 107) (Nat.le_of_ble_eq_true rfl) (Nat.le_of_ble_eq_true rfl) ?_
  refine lv_astore_n (lv' := [(1, .ref qx), (0, .ref b)]) hx hb d_code_7 rfl hl (by decide) rfl (fun ls hl => ?_)
  refine va_new (ci := 5) (fs := [.int 0, .null, .null, .null, .int 0, .null, .null, .null, .null, .null, .null, .null, .int 0, .null]) (C := "StrongPartsModel") (T := T_5) (N := 14) hx hb hts in_5 t_5 t_5_ok hown (hts _ tw_481) (hts _ tw_482) (hts _ tw_60) hK hP hD hS hA rfl (fun j hj => dv_5 j hj) (Nat.le_of_ble_eq_true rfl) (Nat.le_of_ble_eq_true rfl) d_code_8 (fun qm H hP hD hS => ?_)
  have hP : va_P (dC, dI) classes [(qx, .inr (4, [.ref qg, .ref qr, .ref qk, .ref ql])), (qg, .inr (0, [.ref ao, .ref ai, .ref an, .int 0, .int 0])), (ao, .inl (ko, 15, .inl (fun _ => 0))), (ai, .inl (ki, 15, .inl (fun _ => 0))), (an, .inl (kn, 15, .inl (fun _ => 0))), (qr, .inr (1, [.ref as_, .int 0])), (as_, .inl (ks, 15, .inl (fun _ => 0))), (qk, .inr (2, [.ref ab, .int 0, .ref ac])), (ab, .inl (kb, 15, .inl (fun _ => 0))), (ac, .inl (kc, 1, .inr (.inl (fun _ => 0)))), (ql, .inr (3, [.ref al])), (al, .inl (kl, 16, .inl (fun _ => 0))), (qm, .inr (5, [.int 0, .null, .null, .null, .int 0, .null, .null, .null, .null, .null, .null, .null, .int 0, .null]))] H := hP
  have hD : va_D A [(qx, .inr (4, [.ref qg, .ref qr, .ref qk, .ref ql])), (qg, .inr (0, [.ref ao, .ref ai, .ref an, .int 0, .int 0])), (ao, .inl (ko, 15, .inl (fun _ => 0))), (ai, .inl (ki, 15, .inl (fun _ => 0))), (an, .inl (kn, 15, .inl (fun _ => 0))), (qr, .inr (1, [.ref as_, .int 0])), (as_, .inl (ks, 15, .inl (fun _ => 0))), (qk, .inr (2, [.ref ab, .int 0, .ref ac])), (ab, .inl (kb, 15, .inl (fun _ => 0))), (ac, .inl (kc, 1, .inr (.inl (fun _ => 0)))), (ql, .inr (3, [.ref al])), (al, .inl (kl, 16, .inl (fun _ => 0))), (qm, .inr (5, [.int 0, .null, .null, .null, .int 0, .null, .null, .null, .null, .null, .null, .null, .int 0, .null]))] := hD
  refine W.widen (k := 13) (n := 121) (Nat.le_of_ble_eq_true rfl) (Nat.le_of_ble_eq_true rfl) ?_
  refine lv_dup hx hb d_code_11 rfl ?_
  have hPc := hP.sub (ws' := [(qm, .inr (5, [.int 0, .null, .null, .null, .int 0, .null, .null, .null, .null, .null, .null, .null, .int 0, .null]))]) [12] rfl
  have hDc := hD.sub (ws' := [(qm, .inr (5, [.int 0, .null, .null, .null, .int 0, .null, .null, .null, .null, .null, .null, .null, .int 0, .null]))]) [12] (by decide) rfl
  have hKc := hK.sub (tys' := []) [] rfl
  have hFc := va_free (wc := [(qm, .inr (5, [.int 0, .null, .null, .null, .int 0, .null, .null, .null, .null, .null, .null, .null, .int 0, .null]))]) hD hS hA [12] rfl
  refine va_callv (va_runI (As := []) (rest := [.ref qm]) ⟨hx, hb, hml, hown, hts⟩ (c_M_init l dC dI qm H.size) (cwI 0 hts (gd_485) rfl rfl rfl (hts _ tw_60) (hts _ tw_483) (hts _ tw_484) rfl (by decide +kernel) ⟨Nat.le_of_ble_eq_true rfl, Nat.le_of_ble_eq_true rfl⟩) ⟨cPre_blind, cPre_pre hPc hKc hDc hN⟩ rfl rfl hl.1 rfl (lv_room (Nat.le_of_ble_eq_true rfl)) d_code_12 ⟨Nat.le_of_ble_eq_true rfl, Nat.le_of_ble_eq_true rfl⟩) hS (fun q _ h => hFc q h) hFc (fun u t H1 locs ht hvm hw hB hz1 hk1 hS => ?_)
  obtain ⟨z_isArc, kz_isArc, z_reaches, kz_reaches, z_knotOf, kz_knotOf, z_aheadOf, kz_aheadOf, z_rows, kz_rows, z_deep, kz_deep, z_left, kz_left, z_partOf, kz_partOf, z_sideOf, kz_sideOf, z_isOdd, kz_isOdd, z_row, kz_row, hP1, hK1, hD1⟩ := hB
  rw [ht] at hP1
  obtain ⟨hP, hD⟩ := va_join (wr := [(qx, .inr (4, [.ref qg, .ref qr, .ref qk, .ref ql])), (qg, .inr (0, [.ref ao, .ref ai, .ref an, .int 0, .int 0])), (ao, .inl (ko, 15, .inl (fun _ => 0))), (ai, .inl (ki, 15, .inl (fun _ => 0))), (an, .inl (kn, 15, .inl (fun _ => 0))), (qr, .inr (1, [.ref as_, .int 0])), (as_, .inl (ks, 15, .inl (fun _ => 0))), (qk, .inr (2, [.ref ab, .int 0, .ref ac])), (ab, .inl (kb, 15, .inl (fun _ => 0))), (ac, .inl (kc, 1, .inr (.inl (fun _ => 0)))), (ql, .inr (3, [.ref al])), (al, .inl (kl, 16, .inl (fun _ => 0)))]) (w1 := [(qm, .inr (5, [.int 0, .ref z_isArc, .ref z_reaches, .ref z_knotOf, .int 0, .ref z_aheadOf, .ref z_rows, .ref z_deep, .ref z_left, .ref z_partOf, .ref z_sideOf, .ref z_isOdd, .int 0, .ref z_row])), (z_isArc, .inl (kz_isArc, 196, .inl (fun _ => 0))), (z_reaches, .inl (kz_reaches, 196, .inl (fun _ => 0))), (z_knotOf, .inl (kz_knotOf, 14, .inl (fun _ => 0))), (z_aheadOf, .inl (kz_aheadOf, 14, .inl (fun _ => 0))), (z_rows, .inl (kz_rows, 16384, .inr (.inl (fun _ => 0)))), (z_deep, .inl (kz_deep, 14, .inl (fun _ => 0))), (z_left, .inl (kz_left, 14, .inl (fun _ => 0))), (z_partOf, .inl (kz_partOf, 14, .inl (fun _ => 0))), (z_sideOf, .inl (kz_sideOf, 14, .inl (fun _ => 0))), (z_isOdd, .inl (kz_isOdd, 14, .inl (fun _ => 0))), (z_row, .inl (kz_row, 14, .inl (fun _ => 0)))]) hP hD [12] [0, 1, 2, 3, 4, 5, 6, 7, 8, 9, 10, 11] rfl rfl (by decide) (by decide) hk1 hFc hP1 hD1
  generalize H1 = H at hP hS ⊢
  have hP : va_P (dC, dI) classes [(qx, .inr (4, [.ref qg, .ref qr, .ref qk, .ref ql])), (qg, .inr (0, [.ref ao, .ref ai, .ref an, .int 0, .int 0])), (ao, .inl (ko, 15, .inl (fun _ => 0))), (ai, .inl (ki, 15, .inl (fun _ => 0))), (an, .inl (kn, 15, .inl (fun _ => 0))), (qr, .inr (1, [.ref as_, .int 0])), (as_, .inl (ks, 15, .inl (fun _ => 0))), (qk, .inr (2, [.ref ab, .int 0, .ref ac])), (ab, .inl (kb, 15, .inl (fun _ => 0))), (ac, .inl (kc, 1, .inr (.inl (fun _ => 0)))), (ql, .inr (3, [.ref al])), (al, .inl (kl, 16, .inl (fun _ => 0))), (qm, .inr (5, [.int 0, .ref z_isArc, .ref z_reaches, .ref z_knotOf, .int 0, .ref z_aheadOf, .ref z_rows, .ref z_deep, .ref z_left, .ref z_partOf, .ref z_sideOf, .ref z_isOdd, .int 0, .ref z_row])), (z_isArc, .inl (kz_isArc, 196, .inl (fun _ => 0))), (z_reaches, .inl (kz_reaches, 196, .inl (fun _ => 0))), (z_knotOf, .inl (kz_knotOf, 14, .inl (fun _ => 0))), (z_aheadOf, .inl (kz_aheadOf, 14, .inl (fun _ => 0))), (z_rows, .inl (kz_rows, 16384, .inr (.inl (fun _ => 0)))), (z_deep, .inl (kz_deep, 14, .inl (fun _ => 0))), (z_left, .inl (kz_left, 14, .inl (fun _ => 0))), (z_partOf, .inl (kz_partOf, 14, .inl (fun _ => 0))), (z_sideOf, .inl (kz_sideOf, 14, .inl (fun _ => 0))), (z_isOdd, .inl (kz_isOdd, 14, .inl (fun _ => 0))), (z_row, .inl (kz_row, 14, .inl (fun _ => 0)))] H := hP
  have hD : va_D A [(qx, .inr (4, [.ref qg, .ref qr, .ref qk, .ref ql])), (qg, .inr (0, [.ref ao, .ref ai, .ref an, .int 0, .int 0])), (ao, .inl (ko, 15, .inl (fun _ => 0))), (ai, .inl (ki, 15, .inl (fun _ => 0))), (an, .inl (kn, 15, .inl (fun _ => 0))), (qr, .inr (1, [.ref as_, .int 0])), (as_, .inl (ks, 15, .inl (fun _ => 0))), (qk, .inr (2, [.ref ab, .int 0, .ref ac])), (ab, .inl (kb, 15, .inl (fun _ => 0))), (ac, .inl (kc, 1, .inr (.inl (fun _ => 0)))), (ql, .inr (3, [.ref al])), (al, .inl (kl, 16, .inl (fun _ => 0))), (qm, .inr (5, [.int 0, .ref z_isArc, .ref z_reaches, .ref z_knotOf, .int 0, .ref z_aheadOf, .ref z_rows, .ref z_deep, .ref z_left, .ref z_partOf, .ref z_sideOf, .ref z_isOdd, .int 0, .ref z_row])), (z_isArc, .inl (kz_isArc, 196, .inl (fun _ => 0))), (z_reaches, .inl (kz_reaches, 196, .inl (fun _ => 0))), (z_knotOf, .inl (kz_knotOf, 14, .inl (fun _ => 0))), (z_aheadOf, .inl (kz_aheadOf, 14, .inl (fun _ => 0))), (z_rows, .inl (kz_rows, 16384, .inr (.inl (fun _ => 0)))), (z_deep, .inl (kz_deep, 14, .inl (fun _ => 0))), (z_left, .inl (kz_left, 14, .inl (fun _ => 0))), (z_partOf, .inl (kz_partOf, 14, .inl (fun _ => 0))), (z_sideOf, .inl (kz_sideOf, 14, .inl (fun _ => 0))), (z_isOdd, .inl (kz_isOdd, 14, .inl (fun _ => 0))), (z_row, .inl (kz_row, 14, .inl (fun _ => 0)))] := hD
  have hK := hK.app (va_K.moved hvm.symm hK1)
  have hK : va_K (dC, dI) classes [(ko, .int), (ki, .int), (kn, .int), (ks, .int), (kb, .int), (kc, .long), (kl, .int), (kz_isArc, .boolean), (kz_reaches, .boolean), (kz_knotOf, .int), (kz_aheadOf, .int), (kz_rows, .long), (kz_deep, .int), (kz_left, .int), (kz_partOf, .int), (kz_sideOf, .int), (kz_isOdd, .boolean), (kz_row, .int)] s := hK
  refine W.widen (k := 24) (n := 17009) (Nat.le_of_ble_eq_true rfl) (Nat.le_of_ble_eq_true rfl) ?_
  refine lv_astore_n (lv' := [(2, .ref qm), (1, .ref qx), (0, .ref b)]) hx hb d_code_15 rfl hl (by decide) rfl (fun ls hl => ?_)
  refine lv_iconst (v := 0) hx hb d_code_16 (by decide) ?_
  refine lv_istore_n (lv' := [(3, .int 0), (2, .ref qm), (1, .ref qx), (0, .ref b)]) hx hb d_code_17 rfl hl (by decide) rfl (fun ls hl => ?_)
  refine W.widen (k := 600000) (n := 7302250) (Nat.le_of_ble_eq_true rfl) (Nat.le_of_ble_eq_true rfl) ?_
  exact law_head hL C0 hAe hK hN hP hD hS hl
set_option maxHeartbeats 4000000 in
theorem lw_walk (l : Launch) (b : Addr) (xs : List Int32) : MetFree l x (headSpec (Jvm.Cond.code x code maxLocals ret :: tables_1) room_1) (lw_P b xs) (fun _ _ _ _ _ => True) lw_Q := by
  refine MetFree.of_bodyS (code := code) (maxLocals := maxLocals) (ret := ret) (by decide) ?_ ?_
  · intro args s m h hn
    obtain ⟨meth, c, h1, h2, h3, h4, h5, h6, -, -⟩ := Cond.code_spec hn (atoms_spec (ws := Jvm.Cond.code x code maxLocals ret :: tables_1) h _ List.mem_cons_self)
    exact ⟨meth, c, h1, h2, h3, h4, h5, h6⟩
  · intro p e s m args below meth c s₁ B hml0 hP _
    obtain ⟨rfl, hx, hbd, hgv⟩ := hP
    obtain ⟨scr, harrAt, hlist, hof, hsmall⟩ := hx
    obtain ⟨hcb, hkn, -, -⟩ := State.arrayAt?_spec harrAt
    have hown : s.vm.findClass R_law = some m.cls := findClass_of_methodNamed B.named
    have hts0 : ∀ c ∈ (Jvm.Cond.code x code maxLocals ret :: tables_1), c.before #[Value.ref b] s = true := atoms_spec (ws := Jvm.Cond.code x code maxLocals ret :: tables_1) B.pre
    have hts : ∀ w ∈ lw_tbl, w.before #[Value.ref b] s = true := k2_hts_sels lw_privs (fun w hw => hts0 w (List.mem_cons_of_mem _ hw)) lw_privs_ok
    have hml : c.maxLocals = 4 := B.maxLocals_eq (hts0 _ List.mem_cons_self)
    have X₀ : Stand p l e room_1 s m #[Value.ref b] below meth c s₁ [] 0 0 := Stand.of_body B
    have hh0 : s₁.heap = s.heap := by rw [B.state]; rfl
    have hsz : scr.slots.size = xs.length := by rw [← Array.length_toList, hlist, List.length_map]
    have hval : ∀ j : Nat, j < xs.length → scr.slots[j]? = some (.int (xs.getD j 0)) := fun j hj => by
      rw [← Array.getElem?_toList, hlist]
      simp [hj]
    have hbl : b < s.heap.size := (Array.getElem?_eq_some_iff.mp hcb).1
    have hX : va_X b xs.length (fun j => xs.getD j 0) s s.heap := ⟨scr, hcb, hof, hkn, hsz, hval⟩
    have K : W p l e room_1 s m #[Value.ref b] below meth c s₁.heap [] 0 0 (lw_Z below #[Value.ref b] s) (entryFrame m ([Value.ref b] : List Value).toArray 4) := by
      rw [hh0]
      exact whole_start l hbd ⟨B.exec, B.bytes, B.returns, hml, hown, hts, hX, hbl, B.notSynchronized, hgv⟩
    obtain ⟨t, a1, o, b1, b2, b3⟩ := K s₁ rfl X₀
    exact ⟨t, o, a1, b1, b2, b3⟩
theorem lw_pre_spec {args : Array Value} {s : State} (h : (Jvm.Cond.and given_1 narrow_1).before args s = true) (hr : rest_1_c.before args s = true) : ∃ (b : Addr) (xs : List Int32), lw_P b xs args s := by
  have hs := flat_of_before _ h
  have hq := flat_of_before _ hr
  have hc : (Cond.count 1).before args s = true := hs _ (by decide +kernel)
  have harr : (Cond.arrayOf (.arg 0) .int).before args s = true := hs _ (by decide +kernel)
  have hle : (Cond.le (.length (.arg 0)) (.int 4)).before args s = true := hs _ (by decide +kernel)
  have hlen : (Cond.isInt (.length (.arg 0))).before args s = true := hq _ (by decide +kernel)
  have hall : (Cond.all (.arg 0) (.isInt (.elem (.arg 0) (.index 0)))).before args s = true := hq _ (by decide +kernel)
  obtain ⟨b, xs, hb, hx⟩ := State.ints_of_pre rfl harr hlen hall
  have hsm : xs.length < 2 ^ 31 := hx.choose_spec.2.2.2
  have hev : (Term.length (.arg 0)).eval args s none [] s = some (.int xs.length.toInt32) := hx.length_eval hb
  have hv := Cond.le_ints hev (show (Term.int 4).eval args s none [] s = some (.int 4) from rfl)
  have hd : xs.length.toInt32 ≤ 4 := by
    simpa [Cond.before, Cond.holds, hv] using hle
  have hN : xs.length ≤ 4 := (Int32.ofNat_le_ofNat hsm (by decide)).mp (show Int32.ofNat xs.length ≤ Int32.ofNat 4 from hd)
  exact ⟨b, xs, Cond.one_arg hc (show args[0]? = some (.ref b) from hb), hx, hN, h⟩
theorem lw_comes (l : Launch) : Comes l x (Jvm.Cond.code x code maxLocals ret :: tables_1) room_1 (fun tb e args s => Calls_1 tb e args s ∧ rest_1 tb e args s ∧ Pre_1 tb e args s)
    (fun _ _ args s o t => lw_Q args s o t) := by
  intro p e ha hc hk s m args below hf hfit hheap happ hpre
  obtain ⟨b, xs, hP⟩ := lw_pre_spec hpre.2.2 hpre.2.1
  obtain ⟨k, o, h1, h2, h3, hQ⟩ := lw_walk l b xs p e ha hc hk s m args below hf ((Spec.applies_iff_loose hf).mp happ).1 hP trivial
  exact ⟨k, o, h1, h2, h3, hQ⟩
theorem lw_frame {s t : State} {o : Outcome} {args : Array Value} (h : Framed s o t [] 600000 7302250) :
    Framed s o t (fieldLocs frame_1_writes args s ++ arrayLocs frame_1_arrays args s ++ staticLocs frame_1_statics s) 600000 7302250 := h
theorem lw_limb (L : Cond) (hL : ∀ (args : Array Value) (s t : State), L.after args s (.returned (some (.int 1))) t = true) :
    ArmFor flags0 classFile x code maxLocals ret World_1 tables_1 room_1 Calls_1 rest_1 Pre_1
      (fun tb e a s o t => postC L tb e a s o t ∧ Framed s o t (fieldLocs frame_1_writes a s ++ arrayLocs frame_1_arrays a s ++ staticLocs frame_1_statics s) 600000 7302250) := by
  intro l _ _ _ p e ha hc hk s m args below hf hfit hheap happ hpre
  obtain ⟨k, o, h1, h2, h3, rfl, hF⟩ := lw_comes l p e ha hc hk s m args below hf hfit hheap happ hpre
  exact ⟨k, _, h1, h2, h3, hL args s _, lw_frame hF⟩
theorem i_vc : Claimed_1_1 ∧ Claimed_1_2 := ⟨lw_limb limb_1_1 (fun args s t => by simp [limb_1_1, Cond.after, Cond.holds, Cond.value]), lw_limb limb_1_2 (fun args s t => Cond.after_iff.mpr (by
  first | (rw [show limb_1_2 = Cond.eq .result (.int 1) from rfl, Cond.eq_ints (x := 1) (y := 1) rfl rfl]; simp; done) | (simp [limb_1_2, Cond.value, Term.eval]; done)))⟩
