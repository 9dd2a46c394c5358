set_option maxHeartbeats 4000000 in
set_option maxRecDepth 100000 in
theorem c_G_init (l : Launch) (dC : Nat → ClassId) (dI : Nat → Nat → Nat) (qg : Nat) (sz : Nat) : Met l ({ cls := "StrongParts$Graph", name := "<init>", desc := "()V" } : Jvm.MethodName) (ww ({ cls := "StrongParts$Graph", name := "<init>", desc := "()V" } : Jvm.MethodName) prog_2_method_1_code 1 none) ({ frames := 1, cells := 3, slots := 45, locals := 12 }) (va_Pc [.ref qg] (cPre (dC, dI) [(qg, .inr (0, [.null, .null, .null, .int 0, .int 0]))] [] sz)) (va_Qv (fun _ : Unit => True) (fun (_ : Unit) t => ∃ (ao : Nat) (ko : ClassId) (ai : Nat) (ki : ClassId) (an : Nat) (kn : ClassId), cEnd (dC, dI) [(qg, .inr (0, [.ref ao, .ref ai, .ref an, .int 0, .int 0])), (ao, .inl (ko, 15, .inl (fun _ => 0))), (ai, .inl (ki, 15, .inl (fun _ => 0))), (an, .inl (kn, 15, .inl (fun _ => 0)))] [(ko, .int), (ki, .int), (kn, .int)] (va_A [(qg, .inr (0, [.null, .null, .null, .int 0, .int 0]))] sz) () t) (va_A [(qg, .inr (0, [.null, .null, .null, .int 0, .int 0]))] sz)) 3 45 (va_A [(qg, .inr (0, [.null, .null, .null, .int 0, .int 0]))] sz) := by
  refine Met.ofW (cc := prog_2_method_1_code) (maxL := 1) (ret := none) (by decide) rfl ?_
  intro p e s m args below meth c s₁ B hml hv
  obtain ⟨rfl, hsz, hP, hK, hD0, hN⟩ := hv
  have hx := B.exec
  have hb := B.bytes
  have hr := B.returns
  have hts := ww_hts (atoms_spec (ws := ww ({ cls := "StrongParts$Graph", name := "<init>", desc := "()V" } : Jvm.MethodName) prog_2_method_1_code 1 none) B.pre)
  have hown : s.vm.findClass "StrongParts$Graph" = some m.cls := findClass_of_methodNamed B.named
  have hlocks := B.notSynchronized
  have hin : meth.name = "<init>" := (name_of_methodNamed B.named B.method).1
  subst hsz
  have hD := hD0.self (sz := s.heap.size)
  generalize hAe : va_A [(qg, .inr (0, [.null, .null, .null, .int 0, .int 0]))] s.heap.size = A at hD ⊢
  have hA : ∀ q : Nat, s.heap.size ≤ q → A q := fun q h => by rw [← hAe]; exact Or.inr h
  have hS : va_S A s.heap s.heap [] := va_S.rf
  have hP : va_P (dC, dI) classes [(qg, .inr (0, [.null, .null, .null, .int 0, .int 0]))] s.heap := hP
  have hl := lv_entry ([.ref qg]) (n := 1) (Nat.le_of_ble_eq_true rfl)
  rw [lg_entry_eq]
  generalize (lg_sl ([.ref qg]) ++ List.replicate (1 - (lg_sl ([.ref qg])).length) Slot.unset).toArray = ls at hl ⊢
  have hl : lv_has ls 1 [(0, .ref qg)] := hl
  refine lv_aload_n hx hb d_p2_1_0 rfl (lv_at hl 0 rfl) ?_
  refine W.objInit hx hb hown (hts _ tw_77) (hts _ tw_70) (hts _ tw_obj) rfl (by rw [hml]; exact hl.1) rfl d_p2_1_1 (Nat.le_of_ble_eq_true rfl) (Nat.le_of_ble_eq_true rfl) ?_
  refine W.eq (g2 := F0 m 4 ls []) rfl ?_
  refine lv_aload_n hx hb d_p2_1_4 rfl (lv_at hl 0 rfl) ?_
  refine lv_bipush (v := 15) hx hb d_p2_1_5 (by decide) ?_
  refine va_newa (atype := .int) (ty := .int) (a0 := (15, .inl (fun _ => 0))) (N' := 15) hx hb (hts _ tw_101) rfl hK hP hD hS hA (fun _ => rfl) (by decide) (by decide) (by decide) (Nat.le_of_ble_eq_true rfl) (Nat.le_of_ble_eq_true rfl) d_p2_1_7 (fun ao ko H hK hP hD hS => ?_)
  have hP : va_P (dC, dI) classes [(qg, .inr (0, [.null, .null, .null, .int 0, .int 0])), (ao, .inl (ko, 15, .inl (fun _ => 0)))] H := hP
  have hD : va_D A [(qg, .inr (0, [.null, .null, .null, .int 0, .int 0])), (ao, .inl (ko, 15, .inl (fun _ => 0)))] := hD
  have hK : va_K (dC, dI) classes [(ko, .int)] s := hK
  refine W.widen (k := 1) (n := 15) (Nat.le_of_ble_eq_true rfl) (Nat.le_of_ble_eq_true rfl) ?_
  refine va_putF (D := (dC, dI)) (ci := 0) (v := .ref ao) (ty := .array .int) (C := "StrongParts$Graph") (T := T_0) (N := 5) hx hb hts in_0 t_0 t_0_ok n_0 hown hK hP hD hS 0 rfl rfl 0 (by decide) (hts _ tw_78) (fun _ h9 => h9) rfl hin rfl (by decide +kernel) rfl rfl (Nat.le_of_ble_eq_true rfl) d_p2_1_9 (fun H locs hP hD hS => ?_)
  have hP : va_P (dC, dI) classes [(qg, .inr (0, [.ref ao, .null, .null, .int 0, .int 0])), (ao, .inl (ko, 15, .inl (fun _ => 0)))] H := hP
  have hD : va_D A [(qg, .inr (0, [.ref ao, .null, .null, .int 0, .int 0])), (ao, .inl (ko, 15, .inl (fun _ => 0)))] := hD
  refine lv_aload_n hx hb d_p2_1_12 rfl (lv_at hl 0 rfl) ?_
  refine lv_bipush (v := 15) hx hb d_p2_1_13 (by decide) ?_
  refine va_newa (atype := .int) (ty := .int) (a0 := (15, .inl (fun _ => 0))) (N' := 15) hx hb (hts _ tw_101) rfl hK hP hD hS hA (fun _ => rfl) (by decide) (by decide) (by decide) (Nat.le_of_ble_eq_true rfl) (Nat.le_of_ble_eq_true rfl) d_p2_1_15 (fun ai ki H hK hP hD hS => ?_)
  have hP : va_P (dC, dI) classes [(qg, .inr (0, [.ref ao, .null, .null, .int 0, .int 0])), (ao, .inl (ko, 15, .inl (fun _ => 0))), (ai, .inl (ki, 15, .inl (fun _ => 0)))] H := hP
  have hD : va_D A [(qg, .inr (0, [.ref ao, .null, .null, .int 0, .int 0])), (ao, .inl (ko, 15, .inl (fun _ => 0))), (ai, .inl (ki, 15, .inl (fun _ => 0)))] := hD
  have hK : va_K (dC, dI) classes [(ko, .int), (ki, .int)] s := hK
  refine W.widen (k := 2) (n := 30) (Nat.le_of_ble_eq_true rfl) (Nat.le_of_ble_eq_true rfl) ?_
  refine va_putF (D := (dC, dI)) (ci := 0) (v := .ref ai) (ty := .array .int) (C := "StrongParts$Graph") (T := T_0) (N := 5) hx hb hts in_0 t_0 t_0_ok n_0 hown hK hP hD hS 0 rfl rfl 1 (by decide) (hts _ tw_80) (fun _ h9 => h9) rfl hin rfl (by decide +kernel) rfl rfl (Nat.le_of_ble_eq_true rfl) d_p2_1_17 (fun H locs hP hD hS => ?_)
  have hP : va_P (dC, dI) classes [(qg, .inr (0, [.ref ao, .ref ai, .null, .int 0, .int 0])), (ao, .inl (ko, 15, .inl (fun _ => 0))), (ai, .inl (ki, 15, .inl (fun _ => 0)))] H := hP
  have hD : va_D A [(qg, .inr (0, [.ref ao, .ref ai, .null, .int 0, .int 0])), (ao, .inl (ko, 15, .inl (fun _ => 0))), (ai, .inl (ki, 15, .inl (fun _ => 0)))] := hD
  refine lv_aload_n hx hb d_p2_1_20 rfl (lv_at hl 0 rfl) ?_
  refine lv_bipush (v := 15) hx hb d_p2_1_21 (by decide) ?_
  refine va_newa (atype := .int) (ty := .int) (a0 := (15, .inl (fun _ => 0))) (N' := 15) hx hb (hts _ tw_101) rfl hK hP hD hS hA (fun _ => rfl) (by decide) (by decide) (by decide) (Nat.le_of_ble_eq_true rfl) (Nat.le_of_ble_eq_true rfl) d_p2_1_23 (fun an kn H hK hP hD hS => ?_)
  have hP : va_P (dC, dI) classes [(qg, .inr (0, [.ref ao, .ref ai, .null, .int 0, .int 0])), (ao, .inl (ko, 15, .inl (fun _ => 0))), (ai, .inl (ki, 15, .inl (fun _ => 0))), (an, .inl (kn, 15, .inl (fun _ => 0)))] H := hP
  have hD : va_D A [(qg, .inr (0, [.ref ao, .ref ai, .null, .int 0, .int 0])), (ao, .inl (ko, 15, .inl (fun _ => 0))), (ai, .inl (ki, 15, .inl (fun _ => 0))), (an, .inl (kn, 15, .inl (fun _ => 0)))] := hD
  have hK : va_K (dC, dI) classes [(ko, .int), (ki, .int), (kn, .int)] s := hK
  refine W.widen (k := 3) (n := 45) (Nat.le_of_ble_eq_true rfl) (Nat.le_of_ble_eq_true rfl) ?_
  refine va_putF (D := (dC, dI)) (ci := 0) (v := .ref an) (ty := .array .int) (C := "StrongParts$Graph") (T := T_0) (N := 5) hx hb hts in_0 t_0 t_0_ok n_0 hown hK hP hD hS 0 rfl rfl 2 (by decide) (hts _ tw_83) (fun _ h9 => h9) rfl hin rfl (by decide +kernel) rfl rfl (Nat.le_of_ble_eq_true rfl) d_p2_1_25 (fun H locs hP hD hS => ?_)
  have hP : va_P (dC, dI) classes [(qg, .inr (0, [.ref ao, .ref ai, .ref an, .int 0, .int 0])), (ao, .inl (ko, 15, .inl (fun _ => 0))), (ai, .inl (ki, 15, .inl (fun _ => 0))), (an, .inl (kn, 15, .inl (fun _ => 0)))] H := hP
  have hD : va_D A [(qg, .inr (0, [.ref ao, .ref ai, .ref an, .int 0, .int 0])), (ao, .inl (ko, 15, .inl (fun _ => 0))), (ai, .inl (ki, 15, .inl (fun _ => 0))), (an, .inl (kn, 15, .inl (fun _ => 0)))] := hD
  have hP9 := hP.sub (ws' := [(qg, .inr (0, [.ref ao, .ref ai, .ref an, .int 0, .int 0])), (ao, .inl (ko, 15, .inl (fun _ => 0))), (ai, .inl (ki, 15, .inl (fun _ => 0))), (an, .inl (kn, 15, .inl (fun _ => 0)))]) [0, 1, 2, 3] rfl
  have hD9 := hD.sub (ws' := [(qg, .inr (0, [.ref ao, .ref ai, .ref an, .int 0, .int 0])), (ao, .inl (ko, 15, .inl (fun _ => 0))), (ai, .inl (ki, 15, .inl (fun _ => 0))), (an, .inl (kn, 15, .inl (fun _ => 0)))]) [0, 1, 2, 3] (by decide) rfl
  have hK9 := hK.sub (tys' := [(ko, .int), (ki, .int), (kn, .int)]) [0, 1, 2] rfl
  refine W.widen (k := 3) (n := 45) (Nat.le_of_ble_eq_true rfl) (Nat.le_of_ble_eq_true rfl) ?_
  exact W.vret hx hb hr (fun t ht hW => ⟨⟨(), rfl, trivial, ao, ko, ai, ki, an, kn, cEnd_mk hP9 hK9 hD9 ht hW⟩, hS.F ht⟩) hS.2.2 d_p2_1_28

set_option maxHeartbeats 4000000 in
set_option maxRecDepth 100000 in
theorem c_GR_init (l : Launch) (dC : Nat → ClassId) (dI : Nat → Nat → Nat) (qr : Nat) (sz : Nat) : Met l ({ cls := "StrongParts$Groups", name := "<init>", desc := "()V" } : Jvm.MethodName) (ww ({ cls := "StrongParts$Groups", name := "<init>", desc := "()V" } : Jvm.MethodName) prog_3_method_1_code 1 none) ({ frames := 1, cells := 1, slots := 15, locals := 12 }) (va_Pc [.ref qr] (cPre (dC, dI) [(qr, .inr (1, [.null, .int 0]))] [] sz)) (va_Qv (fun _ : Unit => True) (fun (_ : Unit) t => ∃ (as_ : Nat) (ks : ClassId), cEnd (dC, dI) [(qr, .inr (1, [.ref as_, .int 0])), (as_, .inl (ks, 15, .inl (fun _ => 0)))] [(ks, .int)] (va_A [(qr, .inr (1, [.null, .int 0]))] sz) () t) (va_A [(qr, .inr (1, [.null, .int 0]))] sz)) 1 15 (va_A [(qr, .inr (1, [.null, .int 0]))] sz) := by
  refine Met.ofW (cc := prog_3_method_1_code) (maxL := 1) (ret := none) (by decide) rfl ?_
  intro p e s m args below meth c s₁ B hml hv
  obtain ⟨rfl, hsz, hP, hK, hD0, hN⟩ := hv
  have hx := B.exec
  have hb := B.bytes
  have hr := B.returns
  have hts := ww_hts (atoms_spec (ws := ww ({ cls := "StrongParts$Groups", name := "<init>", desc := "()V" } : Jvm.MethodName) prog_3_method_1_code 1 none) B.pre)
  have hown : s.vm.findClass "StrongParts$Groups" = some m.cls := findClass_of_methodNamed B.named
  have hlocks := B.notSynchronized
  have hin : meth.name = "<init>" := (name_of_methodNamed B.named B.method).1
  subst hsz
  have hD := hD0.self (sz := s.heap.size)
  generalize hAe : va_A [(qr, .inr (1, [.null, .int 0]))] s.heap.size = A at hD ⊢
  have hA : ∀ q : Nat, s.heap.size ≤ q → A q := fun q h => by rw [← hAe]; exact Or.inr h
  have hS : va_S A s.heap s.heap [] := va_S.rf
  have hP : va_P (dC, dI) classes [(qr, .inr (1, [.null, .int 0]))] s.heap := hP
  have hl := lv_entry ([.ref qr]) (n := 1) (Nat.le_of_ble_eq_true rfl)
  rw [lg_entry_eq]
  generalize (lg_sl ([.ref qr]) ++ List.replicate (1 - (lg_sl ([.ref qr])).length) Slot.unset).toArray = ls at hl ⊢
  have hl : lv_has ls 1 [(0, .ref qr)] := hl
  refine lv_aload_n hx hb d_p3_1_0 rfl (lv_at hl 0 rfl) ?_
  refine W.objInit hx hb hown (hts _ tw_107) (hts _ tw_70) (hts _ tw_obj) rfl (by rw [hml]; exact hl.1) rfl d_p3_1_1 (Nat.le_of_ble_eq_true rfl) (Nat.le_of_ble_eq_true rfl) ?_
  refine W.eq (g2 := F0 m 4 ls []) rfl ?_
  refine lv_aload_n hx hb d_p3_1_4 rfl (lv_at hl 0 rfl) ?_
  refine lv_bipush (v := 15) hx hb d_p3_1_5 (by decide) ?_
  refine va_newa (atype := .int) (ty := .int) (a0 := (15, .inl (fun _ => 0))) (N' := 15) hx hb (hts _ tw_101) rfl hK hP hD hS hA (fun _ => rfl) (by decide) (by decide) (by decide) (Nat.le_of_ble_eq_true rfl) (Nat.le_of_ble_eq_true rfl) d_p3_1_7 (fun as_ ks H hK hP hD hS => ?_)
  have hP : va_P (dC, dI) classes [(qr, .inr (1, [.null, .int 0])), (as_, .inl (ks, 15, .inl (fun _ => 0)))] H := hP
  have hD : va_D A [(qr, .inr (1, [.null, .int 0])), (as_, .inl (ks, 15, .inl (fun _ => 0)))] := hD
  have hK : va_K (dC, dI) classes [(ks, .int)] s := hK
  refine W.widen (k := 1) (n := 15) (Nat.le_of_ble_eq_true rfl) (Nat.le_of_ble_eq_true rfl) ?_
  refine va_putF (D := (dC, dI)) (ci := 1) (v := .ref as_) (ty := .array .int) (C := "StrongParts$Groups") (T := T_1) (N := 2) hx hb hts in_1 t_1 t_1_ok n_1 hown hK hP hD hS 0 rfl rfl 0 (by decide) (hts _ tw_108) (fun _ h9 => h9) rfl hin rfl (by decide +kernel) rfl rfl (Nat.le_of_ble_eq_true rfl) d_p3_1_9 (fun H locs hP hD hS => ?_)
  have hP : va_P (dC, dI) classes [(qr, .inr (1, [.ref as_, .int 0])), (as_, .inl (ks, 15, .inl (fun _ => 0)))] H := hP
  have hD : va_D A [(qr, .inr (1, [.ref as_, .int 0])), (as_, .inl (ks, 15, .inl (fun _ => 0)))] := hD
  have hP9 := hP.sub (ws' := [(qr, .inr (1, [.ref as_, .int 0])), (as_, .inl (ks, 15, .inl (fun _ => 0)))]) [0, 1] rfl
  have hD9 := hD.sub (ws' := [(qr, .inr (1, [.ref as_, .int 0])), (as_, .inl (ks, 15, .inl (fun _ => 0)))]) [0, 1] (by decide) rfl
  have hK9 := hK.sub (tys' := [(ks, .int)]) [0] rfl
  refine W.widen (k := 1) (n := 15) (Nat.le_of_ble_eq_true rfl) (Nat.le_of_ble_eq_true rfl) ?_
  exact W.vret hx hb hr (fun t ht hW => ⟨⟨(), rfl, trivial, as_, ks, cEnd_mk hP9 hK9 hD9 ht hW⟩, hS.F ht⟩) hS.2.2 d_p3_1_12

set_option maxHeartbeats 4000000 in
set_option maxRecDepth 100000 in
theorem c_K_init (l : Launch) (dC : Nat → ClassId) (dI : Nat → Nat → Nat) (qk : Nat) (sz : Nat) : Met l ({ cls := "StrongParts$KnotOrder", name := "<init>", desc := "()V" } : Jvm.MethodName) (ww ({ cls := "StrongParts$KnotOrder", name := "<init>", desc := "()V" } : Jvm.MethodName) prog_4_method_1_code 1 none) ({ frames := 1, cells := 2, slots := 16, locals := 12 }) (va_Pc [.ref qk] (cPre (dC, dI) [(qk, .inr (2, [.null, .int 0, .null]))] [] sz)) (va_Qv (fun _ : Unit => True) (fun (_ : Unit) t => ∃ (ab : Nat) (kb : ClassId) (ac : Nat) (kc : ClassId), cEnd (dC, dI) [(qk, .inr (2, [.ref ab, .int 0, .ref ac])), (ab, .inl (kb, 15, .inl (fun _ => 0))), (ac, .inl (kc, 1, .inr (.inl (fun _ => 0))))] [(kb, .int), (kc, .long)] (va_A [(qk, .inr (2, [.null, .int 0, .null]))] sz) () t) (va_A [(qk, .inr (2, [.null, .int 0, .null]))] sz)) 2 16 (va_A [(qk, .inr (2, [.null, .int 0, .null]))] sz) := by
  refine Met.ofW (cc := prog_4_method_1_code) (maxL := 1) (ret := none) (by decide) rfl ?_
  intro p e s m args below meth c s₁ B hml hv
  obtain ⟨rfl, hsz, hP, hK, hD0, hN⟩ := hv
  have hx := B.exec
  have hb := B.bytes
  have hr := B.returns
  have hts := ww_hts (atoms_spec (ws := ww ({ cls := "StrongParts$KnotOrder", name := "<init>", desc := "()V" } : Jvm.MethodName) prog_4_method_1_code 1 none) B.pre)
  have hown : s.vm.findClass "StrongParts$KnotOrder" = some m.cls := findClass_of_methodNamed B.named
  have hlocks := B.notSynchronized
  have hin : meth.name = "<init>" := (name_of_methodNamed B.named B.method).1
  subst hsz
  have hD := hD0.self (sz := s.heap.size)
  generalize hAe : va_A [(qk, .inr (2, [.null, .int 0, .null]))] s.heap.size = A at hD ⊢
  have hA : ∀ q : Nat, s.heap.size ≤ q → A q := fun q h => by rw [← hAe]; exact Or.inr h
  have hS : va_S A s.heap s.heap [] := va_S.rf
  have hP : va_P (dC, dI) classes [(qk, .inr (2, [.null, .int 0, .null]))] s.heap := hP
  have hl := lv_entry ([.ref qk]) (n := 1) (Nat.le_of_ble_eq_true rfl)
  rw [lg_entry_eq]
  generalize (lg_sl ([.ref qk]) ++ List.replicate (1 - (lg_sl ([.ref qk])).length) Slot.unset).toArray = ls at hl ⊢
  have hl : lv_has ls 1 [(0, .ref qk)] := hl
  refine lv_aload_n hx hb d_p4_1_0 rfl (lv_at hl 0 rfl) ?_
  refine W.objInit hx hb hown (hts _ tw_124) (hts _ tw_70) (hts _ tw_obj) rfl (by rw [hml]; exact hl.1) rfl d_p4_1_1 (Nat.le_of_ble_eq_true rfl) (Nat.le_of_ble_eq_true rfl) ?_
  refine W.eq (g2 := F0 m 4 ls []) rfl ?_
  refine lv_aload_n hx hb d_p4_1_4 rfl (lv_at hl 0 rfl) ?_
  refine lv_bipush (v := 15) hx hb d_p4_1_5 (by decide) ?_
  refine va_newa (atype := .int) (ty := .int) (a0 := (15, .inl (fun _ => 0))) (N' := 15) hx hb (hts _ tw_101) rfl hK hP hD hS hA (fun _ => rfl) (by decide) (by decide) (by decide) (Nat.le_of_ble_eq_true rfl) (Nat.le_of_ble_eq_true rfl) d_p4_1_7 (fun ab kb H hK hP hD hS => ?_)
  have hP : va_P (dC, dI) classes [(qk, .inr (2, [.null, .int 0, .null])), (ab, .inl (kb, 15, .inl (fun _ => 0)))] H := hP
  have hD : va_D A [(qk, .inr (2, [.null, .int 0, .null])), (ab, .inl (kb, 15, .inl (fun _ => 0)))] := hD
  have hK : va_K (dC, dI) classes [(kb, .int)] s := hK
  refine W.widen (k := 1) (n := 15) (Nat.le_of_ble_eq_true rfl) (Nat.le_of_ble_eq_true rfl) ?_
  refine va_putF (D := (dC, dI)) (ci := 2) (v := .ref ab) (ty := .array .int) (C := "StrongParts$KnotOrder") (T := T_2) (N := 3) hx hb hts in_2 t_2 t_2_ok n_2 hown hK hP hD hS 0 rfl rfl 0 (by decide) (hts _ tw_125) (fun _ h9 => h9) rfl hin rfl (by decide +kernel) rfl rfl (Nat.le_of_ble_eq_true rfl) d_p4_1_9 (fun H locs hP hD hS => ?_)
  have hP : va_P (dC, dI) classes [(qk, .inr (2, [.ref ab, .int 0, .null])), (ab, .inl (kb, 15, .inl (fun _ => 0)))] H := hP
  have hD : va_D A [(qk, .inr (2, [.ref ab, .int 0, .null])), (ab, .inl (kb, 15, .inl (fun _ => 0)))] := hD
  refine lv_aload_n hx hb d_p4_1_12 rfl (lv_at hl 0 rfl) ?_
  refine lv_iconst (v := 1) hx hb d_p4_1_13 (by decide) ?_
  refine va_newa (atype := .long) (ty := .long) (a0 := (1, .inr (.inl (fun _ => 0)))) (N' := 1) hx hb (hts _ tw_136) rfl hK hP hD hS hA (fun _ => rfl) (by decide) (by decide) (by decide) (Nat.le_of_ble_eq_true rfl) (Nat.le_of_ble_eq_true rfl) d_p4_1_14 (fun ac kc H hK hP hD hS => ?_)
  have hP : va_P (dC, dI) classes [(qk, .inr (2, [.ref ab, .int 0, .null])), (ab, .inl (kb, 15, .inl (fun _ => 0))), (ac, .inl (kc, 1, .inr (.inl (fun _ => 0))))] H := hP
  have hD : va_D A [(qk, .inr (2, [.ref ab, .int 0, .null])), (ab, .inl (kb, 15, .inl (fun _ => 0))), (ac, .inl (kc, 1, .inr (.inl (fun _ => 0))))] := hD
  have hK : va_K (dC, dI) classes [(kb, .int), (kc, .long)] s := hK
  refine W.widen (k := 2) (n := 16) (Nat.le_of_ble_eq_true rfl) (Nat.le_of_ble_eq_true rfl) ?_
  refine va_put (D := (dC, dI)) (ci := 2) (v := .ref ac) (ty := .array .long) (C := "StrongParts$KnotOrder") (T := T_2) (N := 3) hx hb hts in_2 t_2 t_2_ok n_2 hown hK hP hD hS 0 rfl rfl 2 (by decide) (hts _ tw_128) (fun _ h9 => h9) rfl (by decide +kernel) rfl rfl (Nat.le_of_ble_eq_true rfl) d_p4_1_16 (fun H locs hP hD hS => ?_)
  have hP : va_P (dC, dI) classes [(qk, .inr (2, [.ref ab, .int 0, .ref ac])), (ab, .inl (kb, 15, .inl (fun _ => 0))), (ac, .inl (kc, 1, .inr (.inl (fun _ => 0))))] H := hP
  have hD : va_D A [(qk, .inr (2, [.ref ab, .int 0, .ref ac])), (ab, .inl (kb, 15, .inl (fun _ => 0))), (ac, .inl (kc, 1, .inr (.inl (fun _ => 0))))] := hD
  have hP9 := hP.sub (ws' := [(qk, .inr (2, [.ref ab, .int 0, .ref ac])), (ab, .inl (kb, 15, .inl (fun _ => 0))), (ac, .inl (kc, 1, .inr (.inl (fun _ => 0))))]) [0, 1, 2] rfl
  have hD9 := hD.sub (ws' := [(qk, .inr (2, [.ref ab, .int 0, .ref ac])), (ab, .inl (kb, 15, .inl (fun _ => 0))), (ac, .inl (kc, 1, .inr (.inl (fun _ => 0))))]) [0, 1, 2] (by decide) rfl
  have hK9 := hK.sub (tys' := [(kb, .int), (kc, .long)]) [0, 1] rfl
  refine W.widen (k := 2) (n := 16) (Nat.le_of_ble_eq_true rfl) (Nat.le_of_ble_eq_true rfl) ?_
  exact W.vret hx hb hr (fun t ht hW => ⟨⟨(), rfl, trivial, ab, kb, ac, kc, cEnd_mk hP9 hK9 hD9 ht hW⟩, hS.F ht⟩) hS.2.2 d_p4_1_19

set_option maxHeartbeats 4000000 in
set_option maxRecDepth 100000 in
theorem c_L_init (l : Launch) (dC : Nat → ClassId) (dI : Nat → Nat → Nat) (ql : Nat) (sz : Nat) : Met l ({ cls := "StrongParts$Layers", name := "<init>", desc := "()V" } : Jvm.MethodName) (ww ({ cls := "StrongParts$Layers", name := "<init>", desc := "()V" } : Jvm.MethodName) prog_5_method_1_code 1 none) ({ frames := 1, cells := 1, slots := 16, locals := 12 }) (va_Pc [.ref ql] (cPre (dC, dI) [(ql, .inr (3, [.null]))] [] sz)) (va_Qv (fun _ : Unit => True) (fun (_ : Unit) t => ∃ (al : Nat) (kl : ClassId), cEnd (dC, dI) [(ql, .inr (3, [.ref al])), (al, .inl (kl, 16, .inl (fun _ => 0)))] [(kl, .int)] (va_A [(ql, .inr (3, [.null]))] sz) () t) (va_A [(ql, .inr (3, [.null]))] sz)) 1 16 (va_A [(ql, .inr (3, [.null]))] sz) := by
  refine Met.ofW (cc := prog_5_method_1_code) (maxL := 1) (ret := none) (by decide) rfl ?_
  intro p e s m args below meth c s₁ B hml hv
  obtain ⟨rfl, hsz, hP, hK, hD0, hN⟩ := hv
  have hx := B.exec
  have hb := B.bytes
  have hr := B.returns
  have hts := ww_hts (atoms_spec (ws := ww ({ cls := "StrongParts$Layers", name := "<init>", desc := "()V" } : Jvm.MethodName) prog_5_method_1_code 1 none) B.pre)
  have hown : s.vm.findClass "StrongParts$Layers" = some m.cls := findClass_of_methodNamed B.named
  have hlocks := B.notSynchronized
  have hin : meth.name = "<init>" := (name_of_methodNamed B.named B.method).1
  subst hsz
  have hD := hD0.self (sz := s.heap.size)
  generalize hAe : va_A [(ql, .inr (3, [.null]))] s.heap.size = A at hD ⊢
  have hA : ∀ q : Nat, s.heap.size ≤ q → A q := fun q h => by rw [← hAe]; exact Or.inr h
  have hS : va_S A s.heap s.heap [] := va_S.rf
  have hP : va_P (dC, dI) classes [(ql, .inr (3, [.null]))] s.heap := hP
  have hl := lv_entry ([.ref ql]) (n := 1) (Nat.le_of_ble_eq_true rfl)
  rw [lg_entry_eq]
  generalize (lg_sl ([.ref ql]) ++ List.replicate (1 - (lg_sl ([.ref ql])).length) Slot.unset).toArray = ls at hl ⊢
  have hl : lv_has ls 1 [(0, .ref ql)] := hl
  refine lv_aload_n hx hb d_p5_1_0 rfl (lv_at hl 0 rfl) ?_
  refine W.objInit hx hb hown (hts _ tw_142) (hts _ tw_70) (hts _ tw_obj) rfl (by rw [hml]; exact hl.1) rfl d_p5_1_1 (Nat.le_of_ble_eq_true rfl) (Nat.le_of_ble_eq_true rfl) ?_
  refine W.eq (g2 := F0 m 4 ls []) rfl ?_
  refine lv_aload_n hx hb d_p5_1_4 rfl (lv_at hl 0 rfl) ?_
  refine lv_bipush (v := 16) hx hb d_p5_1_5 (by decide) ?_
  refine va_newa (atype := .int) (ty := .int) (a0 := (16, .inl (fun _ => 0))) (N' := 16) hx hb (hts _ tw_101) rfl hK hP hD hS hA (fun _ => rfl) (by decide) (by decide) (by decide) (Nat.le_of_ble_eq_true rfl) (Nat.le_of_ble_eq_true rfl) d_p5_1_7 (fun al kl H hK hP hD hS => ?_)
  have hP : va_P (dC, dI) classes [(ql, .inr (3, [.null])), (al, .inl (kl, 16, .inl (fun _ => 0)))] H := hP
  have hD : va_D A [(ql, .inr (3, [.null])), (al, .inl (kl, 16, .inl (fun _ => 0)))] := hD
  have hK : va_K (dC, dI) classes [(kl, .int)] s := hK
  refine W.widen (k := 1) (n := 16) (Nat.le_of_ble_eq_true rfl) (Nat.le_of_ble_eq_true rfl) ?_
  refine va_putF (D := (dC, dI)) (ci := 3) (v := .ref al) (ty := .array .int) (C := "StrongParts$Layers") (T := T_3) (N := 1) hx hb hts in_3 t_3 t_3_ok n_3 hown hK hP hD hS 0 rfl rfl 0 (by decide) (hts _ tw_143) (fun _ h9 => h9) rfl hin rfl (by decide +kernel) rfl rfl (Nat.le_of_ble_eq_true rfl) d_p5_1_9 (fun H locs hP hD hS => ?_)
  have hP : va_P (dC, dI) classes [(ql, .inr (3, [.ref al])), (al, .inl (kl, 16, .inl (fun _ => 0)))] H := hP
  have hD : va_D A [(ql, .inr (3, [.ref al])), (al, .inl (kl, 16, .inl (fun _ => 0)))] := hD
  have hP9 := hP.sub (ws' := [(ql, .inr (3, [.ref al])), (al, .inl (kl, 16, .inl (fun _ => 0)))]) [0, 1] rfl
  have hD9 := hD.sub (ws' := [(ql, .inr (3, [.ref al])), (al, .inl (kl, 16, .inl (fun _ => 0)))]) [0, 1] (by decide) rfl
  have hK9 := hK.sub (tys' := [(kl, .int)]) [0] rfl
  refine W.widen (k := 1) (n := 16) (Nat.le_of_ble_eq_true rfl) (Nat.le_of_ble_eq_true rfl) ?_
  exact W.vret hx hb hr (fun t ht hW => ⟨⟨(), rfl, trivial, al, kl, cEnd_mk hP9 hK9 hD9 ht hW⟩, hS.F ht⟩) hS.2.2 d_p5_1_12

set_option maxHeartbeats 4000000 in
set_option maxRecDepth 100000 in
theorem c_X_init (l : Launch) (dC : Nat → ClassId) (dI : Nat → Nat → Nat) (qx : Nat) (sz : Nat) : Met l ({ cls := "StrongParts", name := "<init>", desc := "()V" } : Jvm.MethodName) (ww ({ cls := "StrongParts", name := "<init>", desc := "()V" } : Jvm.MethodName) prog_1_method_1_code 1 none) ({ frames := 2, cells := 11, slots := 103, locals := 32 }) (va_Pc [.ref qx] (cPre (dC, dI) [(qx, .inr (4, [.null, .null, .null, .null]))] [] sz)) (va_Qv (fun _ : Unit => True) (fun (_ : Unit) t => ∃ (qg : Nat) (ao : Nat) (ai : Nat) (an : Nat) (qr : Nat) (as_ : Nat) (qk : Nat) (ab : Nat) (ac : Nat) (ql : Nat) (al : Nat) (ko : ClassId) (ki : ClassId) (kn : ClassId) (ks : ClassId) (kb : ClassId) (kc : ClassId) (kl : ClassId), cEnd (dC, dI) [(qx, .inr (4, [.ref qg, .ref qr, .ref qk, .ref ql])), (qg, .inr (0, [.ref ao, .ref ai, .ref an, .int 0, .int 0])), (ao, .inl (ko, 15, .inl (fun _ => 0))), (ai, .inl (ki, 15, .inl (fun _ => 0))), (an, .inl (kn, 15, .inl (fun _ => 0))), (qr, .inr (1, [.ref as_, .int 0])), (as_, .inl (ks, 15, .inl (fun _ => 0))), (qk, .inr (2, [.ref ab, .int 0, .ref ac])), (ab, .inl (kb, 15, .inl (fun _ => 0))), (ac, .inl (kc, 1, .inr (.inl (fun _ => 0)))), (ql, .inr (3, [.ref al])), (al, .inl (kl, 16, .inl (fun _ => 0)))] [(ko, .int), (ki, .int), (kn, .int), (ks, .int), (kb, .int), (kc, .long), (kl, .int)] (va_A [(qx, .inr (4, [.null, .null, .null, .null]))] sz) () t) (va_A [(qx, .inr (4, [.null, .null, .null, .null]))] sz)) 11 103 (va_A [(qx, .inr (4, [.null, .null, .null, .null]))] sz) := by
  refine Met.ofW (cc := prog_1_method_1_code) (maxL := 1) (ret := none) (by decide) rfl ?_
  intro p e s m args below meth c s₁ B hml hv
  obtain ⟨rfl, hsz, hP, hK, hD0, hN⟩ := hv
  have hx := B.exec
  have hb := B.bytes
  have hr := B.returns
  have hts := ww_hts (atoms_spec (ws := ww ({ cls := "StrongParts", name := "<init>", desc := "()V" } : Jvm.MethodName) prog_1_method_1_code 1 none) B.pre)
  have hown : s.vm.findClass "StrongParts" = some m.cls := findClass_of_methodNamed B.named
  have hlocks := B.notSynchronized
  have hin : meth.name = "<init>" := (name_of_methodNamed B.named B.method).1
  subst hsz
  have hD := hD0.self (sz := s.heap.size)
  generalize hAe : va_A [(qx, .inr (4, [.null, .null, .null, .null]))] s.heap.size = A at hD ⊢
  have hA : ∀ q : Nat, s.heap.size ≤ q → A q := fun q h => by rw [← hAe]; exact Or.inr h
  have hS : va_S A s.heap s.heap [] := va_S.rf
  have hP : va_P (dC, dI) classes [(qx, .inr (4, [.null, .null, .null, .null]))] s.heap := hP
  have hl := lv_entry ([.ref qx]) (n := 1) (Nat.le_of_ble_eq_true rfl)
  rw [lg_entry_eq]
  generalize (lg_sl ([.ref qx]) ++ List.replicate (1 - (lg_sl ([.ref qx])).length) Slot.unset).toArray = ls at hl ⊢
  have hl : lv_has ls 1 [(0, .ref qx)] := hl
  refine lv_aload_n hx hb d_p1_1_0 rfl (lv_at hl 0 rfl) ?_
  refine W.objInit hx hb hown (hts _ tw_69) (hts _ tw_70) (hts _ tw_obj) rfl (by rw [hml]; exact hl.1) rfl d_p1_1_1 (Nat.le_of_ble_eq_true rfl) (Nat.le_of_ble_eq_true rfl) ?_
  refine W.eq (g2 := F0 m 4 ls []) rfl ?_
  refine lv_aload_n hx hb d_p1_1_4 rfl (lv_at hl 0 rfl) ?_
  refine va_new (ci := 0) (fs := [.null, .null, .null, .int 0, .int 0]) (C := "StrongParts$Graph") (T := T_0) (N := 5) hx hb hts in_0 t_0 t_0_ok hown (hts _ tw_72) (hts _ tw_73) (hts _ tw_56) hK hP hD hS hA rfl (fun j hj => dv_0 j hj) (Nat.le_of_ble_eq_true rfl) (Nat.le_of_ble_eq_true rfl) d_p1_1_5 (fun qg H hP hD hS => ?_)
  have hP : va_P (dC, dI) classes [(qx, .inr (4, [.null, .null, .null, .null])), (qg, .inr (0, [.null, .null, .null, .int 0, .int 0]))] H := hP
  have hD : va_D A [(qx, .inr (4, [.null, .null, .null, .null])), (qg, .inr (0, [.null, .null, .null, .int 0, .int 0]))] := hD
  refine W.widen (k := 1) (n := 5) (Nat.le_of_ble_eq_true rfl) (Nat.le_of_ble_eq_true rfl) ?_
  refine lv_dup hx hb d_p1_1_8 rfl ?_
  have hPc := hP.sub (ws' := [(qg, .inr (0, [.null, .null, .null, .int 0, .int 0]))]) [1] rfl
  have hDc := hD.sub (ws' := [(qg, .inr (0, [.null, .null, .null, .int 0, .int 0]))]) [1] (by decide) rfl
  have hKc := hK.sub (tys' := []) [] rfl
  have hFc := va_free (wc := [(qg, .inr (0, [.null, .null, .null, .int 0, .int 0]))]) hD hS hA [1] rfl
  refine va_callv (va_runIN (As := []) (rest := [.ref qg, .ref qx]) ⟨hx, hb, hml, hown, hts⟩ (c_G_init l dC dI qg H.size) (⟨va_cnB 0 hts (gd_76) rfl rfl rfl (hN _ nw_74) (hts _ tw_56) (by decide +kernel) ⟨Nat.le_of_ble_eq_true rfl, Nat.le_of_ble_eq_true rfl⟩, rfl, hts _ tw_75⟩) ⟨cPre_blind, cPre_pre hPc hKc hDc hN⟩ rfl rfl hl.1 rfl (lv_room (Nat.le_of_ble_eq_true rfl)) d_p1_1_9 ⟨Nat.le_of_ble_eq_true rfl, Nat.le_of_ble_eq_true rfl⟩) hS (fun q _ h => hFc q h) hFc (fun u t H1 locs ht hvm hw hB hz1 hk1 hS => ?_)
  obtain ⟨ao, ko, ai, ki, an, kn, hP1, hK1, hD1⟩ := hB
  rw [ht] at hP1
  obtain ⟨hP, hD⟩ := va_join (wr := [(qx, .inr (4, [.null, .null, .null, .null]))]) (w1 := [(qg, .inr (0, [.ref ao, .ref ai, .ref an, .int 0, .int 0])), (ao, .inl (ko, 15, .inl (fun _ => 0))), (ai, .inl (ki, 15, .inl (fun _ => 0))), (an, .inl (kn, 15, .inl (fun _ => 0)))]) hP hD [1] [0] rfl rfl (by decide) (by decide) hk1 hFc hP1 hD1
  generalize H1 = H at hP hS ⊢
  have hP : va_P (dC, dI) classes [(qx, .inr (4, [.null, .null, .null, .null])), (qg, .inr (0, [.ref ao, .ref ai, .ref an, .int 0, .int 0])), (ao, .inl (ko, 15, .inl (fun _ => 0))), (ai, .inl (ki, 15, .inl (fun _ => 0))), (an, .inl (kn, 15, .inl (fun _ => 0)))] H := hP
  have hD : va_D A [(qx, .inr (4, [.null, .null, .null, .null])), (qg, .inr (0, [.ref ao, .ref ai, .ref an, .int 0, .int 0])), (ao, .inl (ko, 15, .inl (fun _ => 0))), (ai, .inl (ki, 15, .inl (fun _ => 0))), (an, .inl (kn, 15, .inl (fun _ => 0)))] := hD
  have hK := hK.app (va_K.moved hvm.symm hK1)
  have hK : va_K (dC, dI) classes [(ko, .int), (ki, .int), (kn, .int)] s := hK
  refine W.widen (k := 4) (n := 50) (Nat.le_of_ble_eq_true rfl) (Nat.le_of_ble_eq_true rfl) ?_
  refine va_putF (D := (dC, dI)) (ci := 4) (v := .ref qg) (ty := .object "StrongParts$Graph") (C := "StrongParts") (T := T_4) (N := 4) hx hb hts in_4 t_4 t_4_ok n_4 hown hK hP hD hS 0 rfl rfl 0 (by decide) (hts _ tw_147) (fun _ h9 => h9) rfl hin rfl (by decide +kernel) rfl rfl (Nat.le_of_ble_eq_true rfl) d_p1_1_12 (fun H locs hP hD hS => ?_)
  have hP : va_P (dC, dI) classes [(qx, .inr (4, [.ref qg, .null, .null, .null])), (qg, .inr (0, [.ref ao, .ref ai, .ref an, .int 0, .int 0])), (ao, .inl (ko, 15, .inl (fun _ => 0))), (ai, .inl (ki, 15, .inl (fun _ => 0))), (an, .inl (kn, 15, .inl (fun _ => 0)))] H := hP
  have hD : va_D A [(qx, .inr (4, [.ref qg, .null, .null, .null])), (qg, .inr (0, [.ref ao, .ref ai, .ref an, .int 0, .int 0])), (ao, .inl (ko, 15, .inl (fun _ => 0))), (ai, .inl (ki, 15, .inl (fun _ => 0))), (an, .inl (kn, 15, .inl (fun _ => 0)))] := hD
  refine lv_aload_n hx hb d_p1_1_15 rfl (lv_at hl 0 rfl) ?_
  refine va_new (ci := 1) (fs := [.null, .int 0]) (C := "StrongParts$Groups") (T := T_1) (N := 2) hx hb hts in_1 t_1 t_1_ok hown (hts _ tw_102) (hts _ tw_103) (hts _ tw_57) hK hP hD hS hA rfl (fun j hj => dv_1 j hj) (Nat.le_of_ble_eq_true rfl) (Nat.le_of_ble_eq_true rfl) d_p1_1_16 (fun qr H hP hD hS => ?_)
  have hP : va_P (dC, dI) classes [(qx, .inr (4, [.ref qg, .null, .null, .null])), (qg, .inr (0, [.ref ao, .ref ai, .ref an, .int 0, .int 0])), (ao, .inl (ko, 15, .inl (fun _ => 0))), (ai, .inl (ki, 15, .inl (fun _ => 0))), (an, .inl (kn, 15, .inl (fun _ => 0))), (qr, .inr (1, [.null, .int 0]))] H := hP
  have hD : va_D A [(qx, .inr (4, [.ref qg, .null, .null, .null])), (qg, .inr (0, [.ref ao, .ref ai, .ref an, .int 0, .int 0])), (ao, .inl (ko, 15, .inl (fun _ => 0))), (ai, .inl (ki, 15, .inl (fun _ => 0))), (an, .inl (kn, 15, .inl (fun _ => 0))), (qr, .inr (1, [.null, .int 0]))] := hD
  refine W.widen (k := 5) (n := 52) (Nat.le_of_ble_eq_true rfl) (Nat.le_of_ble_eq_true rfl) ?_
  refine lv_dup hx hb d_p1_1_19 rfl ?_
  have hPc := hP.sub (ws' := [(qr, .inr (1, [.null, .int 0]))]) [5] rfl
  have hDc := hD.sub (ws' := [(qr, .inr (1, [.null, .int 0]))]) [5] (by decide) rfl
  have hKc := hK.sub (tys' := []) [] rfl
  have hFc := va_free (wc := [(qr, .inr (1, [.null, .int 0]))]) hD hS hA [5] rfl
  refine va_callv (va_runIN (As := []) (rest := [.ref qr, .ref qx]) ⟨hx, hb, hml, hown, hts⟩ (c_GR_init l dC dI qr H.size) (⟨va_cnB 0 hts (gd_106) rfl rfl rfl (hN _ nw_104) (hts _ tw_57) (by decide +kernel) ⟨Nat.le_of_ble_eq_true rfl, Nat.le_of_ble_eq_true rfl⟩, rfl, hts _ tw_105⟩) ⟨cPre_blind, cPre_pre hPc hKc hDc hN⟩ rfl rfl hl.1 rfl (lv_room (Nat.le_of_ble_eq_true rfl)) d_p1_1_20 ⟨Nat.le_of_ble_eq_true rfl, Nat.le_of_ble_eq_true rfl⟩) hS (fun q _ h => hFc q h) hFc (fun u t H1 locs ht hvm hw hB hz1 hk1 hS => ?_)
  obtain ⟨as_, ks, hP1, hK1, hD1⟩ := hB
  rw [ht] at hP1
  obtain ⟨hP, hD⟩ := va_join (wr := [(qx, .inr (4, [.ref qg, .null, .null, .null])), (qg, .inr (0, [.ref ao, .ref ai, .ref an, .int 0, .int 0])), (ao, .inl (ko, 15, .inl (fun _ => 0))), (ai, .inl (ki, 15, .inl (fun _ => 0))), (an, .inl (kn, 15, .inl (fun _ => 0)))]) (w1 := [(qr, .inr (1, [.ref as_, .int 0])), (as_, .inl (ks, 15, .inl (fun _ => 0)))]) hP hD [5] [0, 1, 2, 3, 4] rfl rfl (by decide) (by decide) hk1 hFc hP1 hD1
  generalize H1 = H at hP hS ⊢
  have hP : va_P (dC, dI) classes [(qx, .inr (4, [.ref qg, .null, .null, .null])), (qg, .inr (0, [.ref ao, .ref ai, .ref an, .int 0, .int 0])), (ao, .inl (ko, 15, .inl (fun _ => 0))), (ai, .inl (ki, 15, .inl (fun _ => 0))), (an, .inl (kn, 15, .inl (fun _ => 0))), (qr, .inr (1, [.ref as_, .int 0])), (as_, .inl (ks, 15, .inl (fun _ => 0)))] H := hP
  have hD : va_D A [(qx, .inr (4, [.ref qg, .null, .null, .null])), (qg, .inr (0, [.ref ao, .ref ai, .ref an, .int 0, .int 0])), (ao, .inl (ko, 15, .inl (fun _ => 0))), (ai, .inl (ki, 15, .inl (fun _ => 0))), (an, .inl (kn, 15, .inl (fun _ => 0))), (qr, .inr (1, [.ref as_, .int 0])), (as_, .inl (ks, 15, .inl (fun _ => 0)))] := hD
  have hK := hK.app (va_K.moved hvm.symm hK1)
  have hK : va_K (dC, dI) classes [(ko, .int), (ki, .int), (kn, .int), (ks, .int)] s := hK
  refine W.widen (k := 6) (n := 67) (Nat.le_of_ble_eq_true rfl) (Nat.le_of_ble_eq_true rfl) ?_
  refine va_putF (D := (dC, dI)) (ci := 4) (v := .ref qr) (ty := .object "StrongParts$Groups") (C := "StrongParts") (T := T_4) (N := 4) hx hb hts in_4 t_4 t_4_ok n_4 hown hK hP hD hS 0 rfl rfl 1 (by decide) (hts _ tw_148) (fun _ h9 => h9) rfl hin rfl (by decide +kernel) rfl rfl (Nat.le_of_ble_eq_true rfl) d_p1_1_23 (fun H locs hP hD hS => ?_)
  have hP : va_P (dC, dI) classes [(qx, .inr (4, [.ref qg, .ref qr, .null, .null])), (qg, .inr (0, [.ref ao, .ref ai, .ref an, .int 0, .int 0])), (ao, .inl (ko, 15, .inl (fun _ => 0))), (ai, .inl (ki, 15, .inl (fun _ => 0))), (an, .inl (kn, 15, .inl (fun _ => 0))), (qr, .inr (1, [.ref as_, .int 0])), (as_, .inl (ks, 15, .inl (fun _ => 0)))] H := hP
  have hD : va_D A [(qx, .inr (4, [.ref qg, .ref qr, .null, .null])), (qg, .inr (0, [.ref ao, .ref ai, .ref an, .int 0, .int 0])), (ao, .inl (ko, 15, .inl (fun _ => 0))), (ai, .inl (ki, 15, .inl (fun _ => 0))), (an, .inl (kn, 15, .inl (fun _ => 0))), (qr, .inr (1, [.ref as_, .int 0])), (as_, .inl (ks, 15, .inl (fun _ => 0)))] := hD
  refine lv_aload_n hx hb d_p1_1_26 rfl (lv_at hl 0 rfl) ?_
  refine va_new (ci := 2) (fs := [.null, .int 0, .null]) (C := "StrongParts$KnotOrder") (T := T_2) (N := 3) hx hb hts in_2 t_2 t_2_ok hown (hts _ tw_119) (hts _ tw_120) (hts _ tw_58) hK hP hD hS hA rfl (fun j hj => dv_2 j hj) (Nat.le_of_ble_eq_true rfl) (Nat.le_of_ble_eq_true rfl) d_p1_1_27 (fun qk H hP hD hS => ?_)
  have hP : va_P (dC, dI) classes [(qx, .inr (4, [.ref qg, .ref qr, .null, .null])), (qg, .inr (0, [.ref ao, .ref ai, .ref an, .int 0, .int 0])), (ao, .inl (ko, 15, .inl (fun _ => 0))), (ai, .inl (ki, 15, .inl (fun _ => 0))), (an, .inl (kn, 15, .inl (fun _ => 0))), (qr, .inr (1, [.ref as_, .int 0])), (as_, .inl (ks, 15, .inl (fun _ => 0))), (qk, .inr (2, [.null, .int 0, .null]))] H := hP
  have hD : va_D A [(qx, .inr (4, [.ref qg, .ref qr, .null, .null])), (qg, .inr (0, [.ref ao, .ref ai, .ref an, .int 0, .int 0])), (ao, .inl (ko, 15, .inl (fun _ => 0))), (ai, .inl (ki, 15, .inl (fun _ => 0))), (an, .inl (kn, 15, .inl (fun _ => 0))), (qr, .inr (1, [.ref as_, .int 0])), (as_, .inl (ks, 15, .inl (fun _ => 0))), (qk, .inr (2, [.null, .int 0, .null]))] := hD
  refine W.widen (k := 7) (n := 70) (Nat.le_of_ble_eq_true rfl) (Nat.le_of_ble_eq_true rfl) ?_
  refine lv_dup hx hb d_p1_1_30 rfl ?_
  have hPc := hP.sub (ws' := [(qk, .inr (2, [.null, .int 0, .null]))]) [7] rfl
  have hDc := hD.sub (ws' := [(qk, .inr (2, [.null, .int 0, .null]))]) [7] (by decide) rfl
  have hKc := hK.sub (tys' := []) [] rfl
  have hFc := va_free (wc := [(qk, .inr (2, [.null, .int 0, .null]))]) hD hS hA [7] rfl
  refine va_callv (va_runIN (As := []) (rest := [.ref qk, .ref qx]) ⟨hx, hb, hml, hown, hts⟩ (c_K_init l dC dI qk H.size) (⟨va_cnB 0 hts (gd_123) rfl rfl rfl (hN _ nw_121) (hts _ tw_58) (by decide +kernel) ⟨Nat.le_of_ble_eq_true rfl, Nat.le_of_ble_eq_true rfl⟩, rfl, hts _ tw_122⟩) ⟨cPre_blind, cPre_pre hPc hKc hDc hN⟩ rfl rfl hl.1 rfl (lv_room (Nat.le_of_ble_eq_true rfl)) d_p1_1_31 ⟨Nat.le_of_ble_eq_true rfl, Nat.le_of_ble_eq_true rfl⟩) hS (fun q _ h => hFc q h) hFc (fun u t H1 locs ht hvm hw hB hz1 hk1 hS => ?_)
  obtain ⟨ab, kb, ac, kc, hP1, hK1, hD1⟩ := hB
  rw [ht] at hP1
  obtain ⟨hP, hD⟩ := va_join (wr := [(qx, .inr (4, [.ref qg, .ref qr, .null, .null])), (qg, .inr (0, [.ref ao, .ref ai, .ref an, .int 0, .int 0])), (ao, .inl (ko, 15, .inl (fun _ => 0))), (ai, .inl (ki, 15, .inl (fun _ => 0))), (an, .inl (kn, 15, .inl (fun _ => 0))), (qr, .inr (1, [.ref as_, .int 0])), (as_, .inl (ks, 15, .inl (fun _ => 0)))]) (w1 := [(qk, .inr (2, [.ref ab, .int 0, .ref ac])), (ab, .inl (kb, 15, .inl (fun _ => 0))), (ac, .inl (kc, 1, .inr (.inl (fun _ => 0))))]) hP hD [7] [0, 1, 2, 3, 4, 5, 6] rfl rfl (by decide) (by decide) hk1 hFc hP1 hD1
  generalize H1 = H at hP hS ⊢
  have hP : va_P (dC, dI) classes [(qx, .inr (4, [.ref qg, .ref qr, .null, .null])), (qg, .inr (0, [.ref ao, .ref ai, .ref an, .int 0, .int 0])), (ao, .inl (ko, 15, .inl (fun _ => 0))), (ai, .inl (ki, 15, .inl (fun _ => 0))), (an, .inl (kn, 15, .inl (fun _ => 0))), (qr, .inr (1, [.ref as_, .int 0])), (as_, .inl (ks, 15, .inl (fun _ => 0))), (qk, .inr (2, [.ref ab, .int 0, .ref ac])), (ab, .inl (kb, 15, .inl (fun _ => 0))), (ac, .inl (kc, 1, .inr (.inl (fun _ => 0))))] H := hP
  have hD : va_D A [(qx, .inr (4, [.ref qg, .ref qr, .null, .null])), (qg, .inr (0, [.ref ao, .ref ai, .ref an, .int 0, .int 0])), (ao, .inl (ko, 15, .inl (fun _ => 0))), (ai, .inl (ki, 15, .inl (fun _ => 0))), (an, .inl (kn, 15, .inl (fun _ => 0))), (qr, .inr (1, [.ref as_, .int 0])), (as_, .inl (ks, 15, .inl (fun _ => 0))), (qk, .inr (2, [.ref ab, .int 0, .ref ac])), (ab, .inl (kb, 15, .inl (fun _ => 0))), (ac, .inl (kc, 1, .inr (.inl (fun _ => 0))))] := hD
  have hK := hK.app (va_K.moved hvm.symm hK1)
  have hK : va_K (dC, dI) classes [(ko, .int), (ki, .int), (kn, .int), (ks, .int), (kb, .int), (kc, .long)] s := hK
  refine W.widen (k := 9) (n := 86) (Nat.le_of_ble_eq_true rfl) (Nat.le_of_ble_eq_true rfl) ?_
  refine va_putF (D := (dC, dI)) (ci := 4) (v := .ref qk) (ty := .object "StrongParts$KnotOrder") (C := "StrongParts") (T := T_4) (N := 4) hx hb hts in_4 t_4 t_4_ok n_4 hown hK hP hD hS 0 rfl rfl 2 (by decide) (hts _ tw_149) (fun _ h9 => h9) rfl hin rfl (by decide +kernel) rfl rfl (Nat.le_of_ble_eq_true rfl) d_p1_1_34 (fun H locs hP hD hS => ?_)
  have hP : va_P (dC, dI) classes [(qx, .inr (4, [.ref qg, .ref qr, .ref qk, .null])), (qg, .inr (0, [.ref ao, .ref ai, .ref an, .int 0, .int 0])), (ao, .inl (ko, 15, .inl (fun _ => 0))), (ai, .inl (ki, 15, .inl (fun _ => 0))), (an, .inl (kn, 15, .inl (fun _ => 0))), (qr, .inr (1, [.ref as_, .int 0])), (as_, .inl (ks, 15, .inl (fun _ => 0))), (qk, .inr (2, [.ref ab, .int 0, .ref ac])), (ab, .inl (kb, 15, .inl (fun _ => 0))), (ac, .inl (kc, 1, .inr (.inl (fun _ => 0))))] H := hP
  have hD : va_D A [(qx, .inr (4, [.ref qg, .ref qr, .ref qk, .null])), (qg, .inr (0, [.ref ao, .ref ai, .ref an, .int 0, .int 0])), (ao, .inl (ko, 15, .inl (fun _ => 0))), (ai, .inl (ki, 15, .inl (fun _ => 0))), (an, .inl (kn, 15, .inl (fun _ => 0))), (qr, .inr (1, [.ref as_, .int 0])), (as_, .inl (ks, 15, .inl (fun _ => 0))), (qk, .inr (2, [.ref ab, .int 0, .ref ac])), (ab, .inl (kb, 15, .inl (fun _ => 0))), (ac, .inl (kc, 1, .inr (.inl (fun _ => 0))))] := hD
  refine lv_aload_n hx hb d_p1_1_37 rfl (lv_at hl 0 rfl) ?_
  refine va_new (ci := 3) (fs := [.null]) (C := "StrongParts$Layers") (T := T_3) (N := 1) hx hb hts in_3 t_3 t_3_ok hown (hts _ tw_137) (hts _ tw_138) (hts _ tw_59) hK hP hD hS hA rfl (fun j hj => dv_3 j hj) (Nat.le_of_ble_eq_true rfl) (Nat.le_of_ble_eq_true rfl) d_p1_1_38 (fun ql H hP hD hS => ?_)
  have hP : va_P (dC, dI) classes [(qx, .inr (4, [.ref qg, .ref qr, .ref qk, .null])), (qg, .inr (0, [.ref ao, .ref ai, .ref an, .int 0, .int 0])), (ao, .inl (ko, 15, .inl (fun _ => 0))), (ai, .inl (ki, 15, .inl (fun _ => 0))), (an, .inl (kn, 15, .inl (fun _ => 0))), (qr, .inr (1, [.ref as_, .int 0])), (as_, .inl (ks, 15, .inl (fun _ => 0))), (qk, .inr (2, [.ref ab, .int 0, .ref ac])), (ab, .inl (kb, 15, .inl (fun _ => 0))), (ac, .inl (kc, 1, .inr (.inl (fun _ => 0)))), (ql, .inr (3, [.null]))] H := hP
  have hD : va_D A [(qx, .inr (4, [.ref qg, .ref qr, .ref qk, .null])), (qg, .inr (0, [.ref ao, .ref ai, .ref an, .int 0, .int 0])), (ao, .inl (ko, 15, .inl (fun _ => 0))), (ai, .inl (ki, 15, .inl (fun _ => 0))), (an, .inl (kn, 15, .inl (fun _ => 0))), (qr, .inr (1, [.ref as_, .int 0])), (as_, .inl (ks, 15, .inl (fun _ => 0))), (qk, .inr (2, [.ref ab, .int 0, .ref ac])), (ab, .inl (kb, 15, .inl (fun _ => 0))), (ac, .inl (kc, 1, .inr (.inl (fun _ => 0)))), (ql, .inr (3, [.null]))] := hD
  refine W.widen (k := 10) (n := 87) (Nat.le_of_ble_eq_true rfl) (Nat.le_of_ble_eq_true rfl) ?_
  refine lv_dup hx hb d_p1_1_41 rfl ?_
  have hPc := hP.sub (ws' := [(ql, .inr (3, [.null]))]) [10] rfl
  have hDc := hD.sub (ws' := [(ql, .inr (3, [.null]))]) [10] (by decide) rfl
  have hKc := hK.sub (tys' := []) [] rfl
  have hFc := va_free (wc := [(ql, .inr (3, [.null]))]) hD hS hA [10] rfl
  refine va_callv (va_runIN (As := []) (rest := [.ref ql, .ref qx]) ⟨hx, hb, hml, hown, hts⟩ (c_L_init l dC dI ql H.size) (⟨va_cnB 0 hts (gd_141) rfl rfl rfl (hN _ nw_139) (hts _ tw_59) (by decide +kernel) ⟨Nat.le_of_ble_eq_true rfl, Nat.le_of_ble_eq_true rfl⟩, rfl, hts _ tw_140⟩) ⟨cPre_blind, cPre_pre hPc hKc hDc hN⟩ rfl rfl hl.1 rfl (lv_room (Nat.le_of_ble_eq_true rfl)) d_p1_1_42 ⟨Nat.le_of_ble_eq_true rfl, Nat.le_of_ble_eq_true rfl⟩) hS (fun q _ h => hFc q h) hFc (fun u t H1 locs ht hvm hw hB hz1 hk1 hS => ?_)
  obtain ⟨al, kl, hP1, hK1, hD1⟩ := hB
  rw [ht] at hP1
  obtain ⟨hP, hD⟩ := va_join (wr := [(qx, .inr (4, [.ref qg, .ref qr, .ref qk, .null])), (qg, .inr (0, [.ref ao, .ref ai, .ref an, .int 0, .int 0])), (ao, .inl (ko, 15, .inl (fun _ => 0))), (ai, .inl (ki, 15, .inl (fun _ => 0))), (an, .inl (kn, 15, .inl (fun _ => 0))), (qr, .inr (1, [.ref as_, .int 0])), (as_, .inl (ks, 15, .inl (fun _ => 0))), (qk, .inr (2, [.ref ab, .int 0, .ref ac])), (ab, .inl (kb, 15, .inl (fun _ => 0))), (ac, .inl (kc, 1, .inr (.inl (fun _ => 0))))]) (w1 := [(ql, .inr (3, [.ref al])), (al, .inl (kl, 16, .inl (fun _ => 0)))]) hP hD [10] [0, 1, 2, 3, 4, 5, 6, 7, 8, 9] rfl rfl (by decide) (by decide) hk1 hFc hP1 hD1
  generalize H1 = H at hP hS ⊢
  have hP : va_P (dC, dI) classes [(qx, .inr (4, [.ref qg, .ref qr, .ref qk, .null])), (qg, .inr (0, [.ref ao, .ref ai, .ref an, .int 0, .int 0])), (ao, .inl (ko, 15, .inl (fun _ => 0))), (ai, .inl (ki, 15, .inl (fun _ => 0))), (an, .inl (kn, 15, .inl (fun _ => 0))), (qr, .inr (1, [.ref as_, .int 0])), (as_, .inl (ks, 15, .inl (fun _ => 0))), (qk, .inr (2, [.ref ab, .int 0, .ref ac])), (ab, .inl (kb, 15, .inl (fun _ => 0))), (ac, .inl (kc, 1, .inr (.inl (fun _ => 0)))), (ql, .inr (3, [.ref al])), (al, .inl (kl, 16, .inl (fun _ => 0)))] H := hP
  have hD : va_D A [(qx, .inr (4, [.ref qg, .ref qr, .ref qk, .null])), (qg, .inr (0, [.ref ao, .ref ai, .ref an, .int 0, .int 0])), (ao, .inl (ko, 15, .inl (fun _ => 0))), (ai, .inl (ki, 15, .inl (fun _ => 0))), (an, .inl (kn, 15, .inl (fun _ => 0))), (qr, .inr (1, [.ref as_, .int 0])), (as_, .inl (ks, 15, .inl (fun _ => 0))), (qk, .inr (2, [.ref ab, .int 0, .ref ac])), (ab, .inl (kb, 15, .inl (fun _ => 0))), (ac, .inl (kc, 1, .inr (.inl (fun _ => 0)))), (ql, .inr (3, [.ref al])), (al, .inl (kl, 16, .inl (fun _ => 0)))] := hD
  have hK := hK.app (va_K.moved hvm.symm hK1)
  have hK : va_K (dC, dI) classes [(ko, .int), (ki, .int), (kn, .int), (ks, .int), (kb, .int), (kc, .long), (kl, .int)] s := hK
  refine W.widen (k := 11) (n := 103) (Nat.le_of_ble_eq_true rfl) (Nat.le_of_ble_eq_true rfl) ?_
  refine va_putF (D := (dC, dI)) (ci := 4) (v := .ref ql) (ty := .object "StrongParts$Layers") (C := "StrongParts") (T := T_4) (N := 4) hx hb hts in_4 t_4 t_4_ok n_4 hown hK hP hD hS 0 rfl rfl 3 (by decide) (hts _ tw_150) (fun _ h9 => h9) rfl hin rfl (by decide +kernel) rfl rfl (Nat.le_of_ble_eq_true rfl) d_p1_1_45 (fun H locs hP hD hS => ?_)
  have hP : va_P (dC, dI) classes [(qx, .inr (4, [.ref qg, .ref qr, .ref qk, .ref ql])), (qg, .inr (0, [.ref ao, .ref ai, .ref an, .int 0, .int 0])), (ao, .inl (ko, 15, .inl (fun _ => 0))), (ai, .inl (ki, 15, .inl (fun _ => 0))), (an, .inl (kn, 15, .inl (fun _ => 0))), (qr, .inr (1, [.ref as_, .int 0])), (as_, .inl (ks, 15, .inl (fun _ => 0))), (qk, .inr (2, [.ref ab, .int 0, .ref ac])), (ab, .inl (kb, 15, .inl (fun _ => 0))), (ac, .inl (kc, 1, .inr (.inl (fun _ => 0)))), (ql, .inr (3, [.ref al])), (al, .inl (kl, 16, .inl (fun _ => 0)))] H := hP
  have hD : va_D A [(qx, .inr (4, [.ref qg, .ref qr, .ref qk, .ref ql])), (qg, .inr (0, [.ref ao, .ref ai, .ref an, .int 0, .int 0])), (ao, .inl (ko, 15, .inl (fun _ => 0))), (ai, .inl (ki, 15, .inl (fun _ => 0))), (an, .inl (kn, 15, .inl (fun _ => 0))), (qr, .inr (1, [.ref as_, .int 0])), (as_, .inl (ks, 15, .inl (fun _ => 0))), (qk, .inr (2, [.ref ab, .int 0, .ref ac])), (ab, .inl (kb, 15, .inl (fun _ => 0))), (ac, .inl (kc, 1, .inr (.inl (fun _ => 0)))), (ql, .inr (3, [.ref al])), (al, .inl (kl, 16, .inl (fun _ => 0)))] := hD
  have hP9 := hP.sub (ws' := [(qx, .inr (4, [.ref qg, .ref qr, .ref qk, .ref ql])), (qg, .inr (0, [.ref ao, .ref ai, .ref an, .int 0, .int 0])), (ao, .inl (ko, 15, .inl (fun _ => 0))), (ai, .inl (ki, 15, .inl (fun _ => 0))), (an, .inl (kn, 15, .inl (fun _ => 0))), (qr, .inr (1, [.ref as_, .int 0])), (as_, .inl (ks, 15, .inl (fun _ => 0))), (qk, .inr (2, [.ref ab, .int 0, .ref ac])), (ab, .inl (kb, 15, .inl (fun _ => 0))), (ac, .inl (kc, 1, .inr (.inl (fun _ => 0)))), (ql, .inr (3, [.ref al])), (al, .inl (kl, 16, .inl (fun _ => 0)))]) [0, 1, 2, 3, 4, 5, 6, 7, 8, 9, 10, 11] rfl
  have hD9 := hD.sub (ws' := [(qx, .inr (4, [.ref qg, .ref qr, .ref qk, .ref ql])), (qg, .inr (0, [.ref ao, .ref ai, .ref an, .int 0, .int 0])), (ao, .inl (ko, 15, .inl (fun _ => 0))), (ai, .inl (ki, 15, .inl (fun _ => 0))), (an, .inl (kn, 15, .inl (fun _ => 0))), (qr, .inr (1, [.ref as_, .int 0])), (as_, .inl (ks, 15, .inl (fun _ => 0))), (qk, .inr (2, [.ref ab, .int 0, .ref ac])), (ab, .inl (kb, 15, .inl (fun _ => 0))), (ac, .inl (kc, 1, .inr (.inl (fun _ => 0)))), (ql, .inr (3, [.ref al])), (al, .inl (kl, 16, .inl (fun _ => 0)))]) [0, 1, 2, 3, 4, 5, 6, 7, 8, 9, 10, 11] (by decide) rfl
  have hK9 := hK.sub (tys' := [(ko, .int), (ki, .int), (kn, .int), (ks, .int), (kb, .int), (kc, .long), (kl, .int)]) [0, 1, 2, 3, 4, 5, 6] rfl
  refine W.widen (k := 11) (n := 103) (Nat.le_of_ble_eq_true rfl) (Nat.le_of_ble_eq_true rfl) ?_
  exact W.vret hx hb hr (fun t ht hW => ⟨⟨(), rfl, trivial, qg, ao, ai, an, qr, as_, qk, ab, ac, ql, al, ko, ki, kn, ks, kb, kc, kl, cEnd_mk hP9 hK9 hD9 ht hW⟩, hS.F ht⟩) hS.2.2 d_p1_1_48
