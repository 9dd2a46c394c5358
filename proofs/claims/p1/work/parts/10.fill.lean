set_option maxHeartbeats 4000000 in
set_option maxRecDepth 100000 in
theorem c_fill_I (l : Launch) (dC : Nat → ClassId) (dI : Nat → Nat → Nat) (aa : Nat) (ka : ClassId) (fa : Nat → Int32) (sz : Nat) : Met l ({ cls := "java/util/Arrays", name := "fill", desc := "([II)V" } : Jvm.MethodName) (ww ({ cls := "java/util/Arrays", name := "fill", desc := "([II)V" } : Jvm.MethodName) prog_10_method_103_code 4 none) ({ frames := 0, cells := 0, slots := 0, locals := 0 }) (va_Pc [.ref aa, .int 0] (cPre (dC, dI) [(aa, .inl (ka, 15, .inl fa))] [(ka, .int)] sz)) (va_Qv (fun _ : Unit => True) (cEnd (dC, dI) [] [] (va_A [(aa, .inl (ka, 15, .inl fa))] sz)) (va_A [(aa, .inl (ka, 15, .inl fa))] sz)) 0 0 (va_A [(aa, .inl (ka, 15, .inl fa))] sz) := by
  refine Met.ofW (cc := prog_10_method_103_code) (maxL := 4) (ret := none) (by decide) rfl ?_
  intro p e s m args below meth c s₁ B hml hv
  obtain ⟨rfl, hsz, hP, hK, hD0, hN⟩ := hv
  have hx := B.exec
  have hb := B.bytes
  have hr := B.returns
  have hts := ww_hts (atoms_spec (ws := ww ({ cls := "java/util/Arrays", name := "fill", desc := "([II)V" } : Jvm.MethodName) prog_10_method_103_code 4 none) B.pre)
  have hown : s.vm.findClass "java/util/Arrays" = some m.cls := findClass_of_methodNamed B.named
  have hlocks := B.notSynchronized
  subst hsz
  have hD := hD0.self (sz := s.heap.size)
  generalize hAe : va_A [(aa, .inl (ka, 15, .inl fa))] s.heap.size = A at hD ⊢
  have hA : ∀ q : Nat, s.heap.size ≤ q → A q := fun q h => by rw [← hAe]; exact Or.inr h
  have hS : va_S A s.heap s.heap [] := va_S.rf
  have hP : va_P (dC, dI) classes [(aa, .inl (ka, 15, .inl fa))] s.heap := hP
  have hl := lv_entry ([.ref aa, .int 0]) (n := 4) (Nat.le_of_ble_eq_true rfl)
  rw [lg_entry_eq]
  generalize (lg_sl ([.ref aa, .int 0]) ++ List.replicate (4 - (lg_sl ([.ref aa, .int 0])).length) Slot.unset).toArray = ls at hl ⊢
  have hl : lv_has ls 4 [(0, .ref aa), (1, .int 0)] := hl
  refine lv_iconst (v := 0) hx hb d_p10_103_0 (by decide) ?_
  refine lv_istore_n (lv' := [(2, .int 0), (0, .ref aa), (1, .int 0)]) hx hb d_p10_103_1 rfl hl (by decide) rfl (fun ls hl => ?_)
  refine lv_aload_n hx hb d_p10_103_2 rfl (lv_at hl 1 rfl) ?_
  refine va_alen (v := 15) hx hb hK hP 0 0 rfl rfl rfl d_p10_103_3 ?_
  refine lv_istore_n (lv' := [(3, .int 15), (2, .int 0), (0, .ref aa), (1, .int 0)]) hx hb d_p10_103_4 rfl hl (by decide) rfl (fun ls hl => ?_)
  refine lv_iload_n hx hb d_p10_103_5 rfl (lv_at hl 1 rfl) ?_
  refine lv_iload_n hx hb d_p10_103_6 rfl (lv_at hl 0 rfl) ?_
  refine lv_icmp_ge (tgt := 20) hx hb d_p10_103_7 (by decide) (fun c => absurd c (by decide)) (fun _ => ?_)
  refine lv_aload_n hx hb d_p10_103_10 rfl (lv_at hl 2 rfl) ?_
  refine lv_iload_n hx hb d_p10_103_11 rfl (lv_at hl 1 rfl) ?_
  refine lv_iload_n hx hb d_p10_103_12 rfl (lv_at hl 3 rfl) ?_
  refine va_iast hx hb hK hP hD hS 0 0 rfl rfl (i := 0) (by unfold vp_in; decide) d_p10_103_13 (fun H locs hP hD hS => ?_)
  have hP : va_P (dC, dI) classes [(aa, .inl (ka, 15, .inl (upd fa (Int32.toNatClampNeg 0) 0)))] H := hP
  have hD : va_D A [(aa, .inl (ka, 15, .inl (upd fa (Int32.toNatClampNeg 0) 0)))] := hD
  generalize (upd fa (Int32.toNatClampNeg 0) 0) = g_1 at hP hD
  refine lv_iinc (v := 1) (lv' := [(2, .int 1), (3, .int 15), (0, .ref aa), (1, .int 0)]) hx hb d_p10_103_14 hl (k := 1) rfl (by decide) (by decide) rfl (fun ls hl => ?_)
  refine lv_goto (tgt := 5) hx hb d_p10_103_17 (by decide) ?_
  refine lv_iload_n hx hb d_p10_103_5 rfl (lv_at hl 0 rfl) ?_
  refine lv_iload_n hx hb d_p10_103_6 rfl (lv_at hl 1 rfl) ?_
  refine lv_icmp_ge (tgt := 20) hx hb d_p10_103_7 (by decide) (fun c => absurd c (by decide)) (fun _ => ?_)
  refine lv_aload_n hx hb d_p10_103_10 rfl (lv_at hl 2 rfl) ?_
  refine lv_iload_n hx hb d_p10_103_11 rfl (lv_at hl 0 rfl) ?_
  refine lv_iload_n hx hb d_p10_103_12 rfl (lv_at hl 3 rfl) ?_
  refine va_iast hx hb hK hP hD hS 0 0 rfl rfl (i := 1) (by unfold vp_in; decide) d_p10_103_13 (fun H locs hP hD hS => ?_)
  have hP : va_P (dC, dI) classes [(aa, .inl (ka, 15, .inl (upd g_1 (Int32.toNatClampNeg 1) 0)))] H := hP
  have hD : va_D A [(aa, .inl (ka, 15, .inl (upd g_1 (Int32.toNatClampNeg 1) 0)))] := hD
  generalize (upd g_1 (Int32.toNatClampNeg 1) 0) = g_2 at hP hD
  refine lv_iinc (v := 2) (lv' := [(2, .int 2), (3, .int 15), (0, .ref aa), (1, .int 0)]) hx hb d_p10_103_14 hl (k := 0) rfl (by decide) (by decide) rfl (fun ls hl => ?_)
  refine lv_goto (tgt := 5) hx hb d_p10_103_17 (by decide) ?_
  refine lv_iload_n hx hb d_p10_103_5 rfl (lv_at hl 0 rfl) ?_
  refine lv_iload_n hx hb d_p10_103_6 rfl (lv_at hl 1 rfl) ?_
  refine lv_icmp_ge (tgt := 20) hx hb d_p10_103_7 (by decide) (fun c => absurd c (by decide)) (fun _ => ?_)
  refine lv_aload_n hx hb d_p10_103_10 rfl (lv_at hl 2 rfl) ?_
  refine lv_iload_n hx hb d_p10_103_11 rfl (lv_at hl 0 rfl) ?_
  refine lv_iload_n hx hb d_p10_103_12 rfl (lv_at hl 3 rfl) ?_
  refine va_iast hx hb hK hP hD hS 0 0 rfl rfl (i := 2) (by unfold vp_in; decide) d_p10_103_13 (fun H locs hP hD hS => ?_)
  have hP : va_P (dC, dI) classes [(aa, .inl (ka, 15, .inl (upd g_2 (Int32.toNatClampNeg 2) 0)))] H := hP
  have hD : va_D A [(aa, .inl (ka, 15, .inl (upd g_2 (Int32.toNatClampNeg 2) 0)))] := hD
  generalize (upd g_2 (Int32.toNatClampNeg 2) 0) = g_3 at hP hD
  refine lv_iinc (v := 3) (lv' := [(2, .int 3), (3, .int 15), (0, .ref aa), (1, .int 0)]) hx hb d_p10_103_14 hl (k := 0) rfl (by decide) (by decide) rfl (fun ls hl => ?_)
  refine lv_goto (tgt := 5) hx hb d_p10_103_17 (by decide) ?_
  refine lv_iload_n hx hb d_p10_103_5 rfl (lv_at hl 0 rfl) ?_
  refine lv_iload_n hx hb d_p10_103_6 rfl (lv_at hl 1 rfl) ?_
  refine lv_icmp_ge (tgt := 20) hx hb d_p10_103_7 (by decide) (fun c => absurd c (by decide)) (fun _ => ?_)
  refine lv_aload_n hx hb d_p10_103_10 rfl (lv_at hl 2 rfl) ?_
  refine lv_iload_n hx hb d_p10_103_11 rfl (lv_at hl 0 rfl) ?_
  refine lv_iload_n hx hb d_p10_103_12 rfl (lv_at hl 3 rfl) ?_
  refine va_iast hx hb hK hP hD hS 0 0 rfl rfl (i := 3) (by unfold vp_in; decide) d_p10_103_13 (fun H locs hP hD hS => ?_)
  have hP : va_P (dC, dI) classes [(aa, .inl (ka, 15, .inl (upd g_3 (Int32.toNatClampNeg 3) 0)))] H := hP
  have hD : va_D A [(aa, .inl (ka, 15, .inl (upd g_3 (Int32.toNatClampNeg 3) 0)))] := hD
  generalize (upd g_3 (Int32.toNatClampNeg 3) 0) = g_4 at hP hD
  refine lv_iinc (v := 4) (lv' := [(2, .int 4), (3, .int 15), (0, .ref aa), (1, .int 0)]) hx hb d_p10_103_14 hl (k := 0) rfl (by decide) (by decide) rfl (fun ls hl => ?_)
  refine lv_goto (tgt := 5) hx hb d_p10_103_17 (by decide) ?_
  refine lv_iload_n hx hb d_p10_103_5 rfl (lv_at hl 0 rfl) ?_
  refine lv_iload_n hx hb d_p10_103_6 rfl (lv_at hl 1 rfl) ?_
  refine lv_icmp_ge (tgt := 20) hx hb d_p10_103_7 (by decide) (fun c => absurd c (by decide)) (fun _ => ?_)
  refine lv_aload_n hx hb d_p10_103_10 rfl (lv_at hl 2 rfl) ?_
  refine lv_iload_n hx hb d_p10_103_11 rfl (lv_at hl 0 rfl) ?_
  refine lv_iload_n hx hb d_p10_103_12 rfl (lv_at hl 3 rfl) ?_
  refine va_iast hx hb hK hP hD hS 0 0 rfl rfl (i := 4) (by unfold vp_in; decide) d_p10_103_13 (fun H locs hP hD hS => ?_)
  have hP : va_P (dC, dI) classes [(aa, .inl (ka, 15, .inl (upd g_4 (Int32.toNatClampNeg 4) 0)))] H := hP
  have hD : va_D A [(aa, .inl (ka, 15, .inl (upd g_4 (Int32.toNatClampNeg 4) 0)))] := hD
  generalize (upd g_4 (Int32.toNatClampNeg 4) 0) = g_5 at hP hD
  refine lv_iinc (v := 5) (lv' := [(2, .int 5), (3, .int 15), (0, .ref aa), (1, .int 0)]) hx hb d_p10_103_14 hl (k := 0) rfl (by decide) (by decide) rfl (fun ls hl => ?_)
  refine lv_goto (tgt := 5) hx hb d_p10_103_17 (by decide) ?_
  refine lv_iload_n hx hb d_p10_103_5 rfl (lv_at hl 0 rfl) ?_
  refine lv_iload_n hx hb d_p10_103_6 rfl (lv_at hl 1 rfl) ?_
  refine lv_icmp_ge (tgt := 20) hx hb d_p10_103_7 (by decide) (fun c => absurd c (by decide)) (fun _ => ?_)
  refine lv_aload_n hx hb d_p10_103_10 rfl (lv_at hl 2 rfl) ?_
  refine lv_iload_n hx hb d_p10_103_11 rfl (lv_at hl 0 rfl) ?_
  refine lv_iload_n hx hb d_p10_103_12 rfl (lv_at hl 3 rfl) ?_
  refine va_iast hx hb hK hP hD hS 0 0 rfl rfl (i := 5) (by unfold vp_in; decide) d_p10_103_13 (fun H locs hP hD hS => ?_)
  have hP : va_P (dC, dI) classes [(aa, .inl (ka, 15, .inl (upd g_5 (Int32.toNatClampNeg 5) 0)))] H := hP
  have hD : va_D A [(aa, .inl (ka, 15, .inl (upd g_5 (Int32.toNatClampNeg 5) 0)))] := hD
  generalize (upd g_5 (Int32.toNatClampNeg 5) 0) = g_6 at hP hD
  refine lv_iinc (v := 6) (lv' := [(2, .int 6), (3, .int 15), (0, .ref aa), (1, .int 0)]) hx hb d_p10_103_14 hl (k := 0) rfl (by decide) (by decide) rfl (fun ls hl => ?_)
  refine lv_goto (tgt := 5) hx hb d_p10_103_17 (by decide) ?_
  refine lv_iload_n hx hb d_p10_103_5 rfl (lv_at hl 0 rfl) ?_
  refine lv_iload_n hx hb d_p10_103_6 rfl (lv_at hl 1 rfl) ?_
  refine lv_icmp_ge (tgt := 20) hx hb d_p10_103_7 (by decide) (fun c => absurd c (by decide)) (fun _ => ?_)
  refine lv_aload_n hx hb d_p10_103_10 rfl (lv_at hl 2 rfl) ?_
  refine lv_iload_n hx hb d_p10_103_11 rfl (lv_at hl 0 rfl) ?_
  refine lv_iload_n hx hb d_p10_103_12 rfl (lv_at hl 3 rfl) ?_
  refine va_iast hx hb hK hP hD hS 0 0 rfl rfl (i := 6) (by unfold vp_in; decide) d_p10_103_13 (fun H locs hP hD hS => ?_)
  have hP : va_P (dC, dI) classes [(aa, .inl (ka, 15, .inl (upd g_6 (Int32.toNatClampNeg 6) 0)))] H := hP
  have hD : va_D A [(aa, .inl (ka, 15, .inl (upd g_6 (Int32.toNatClampNeg 6) 0)))] := hD
  generalize (upd g_6 (Int32.toNatClampNeg 6) 0) = g_7 at hP hD
  refine lv_iinc (v := 7) (lv' := [(2, .int 7), (3, .int 15), (0, .ref aa), (1, .int 0)]) hx hb d_p10_103_14 hl (k := 0) rfl (by decide) (by decide) rfl (fun ls hl => ?_)
  refine lv_goto (tgt := 5) hx hb d_p10_103_17 (by decide) ?_
  refine lv_iload_n hx hb d_p10_103_5 rfl (lv_at hl 0 rfl) ?_
  refine lv_iload_n hx hb d_p10_103_6 rfl (lv_at hl 1 rfl) ?_
  refine lv_icmp_ge (tgt := 20) hx hb d_p10_103_7 (by decide) (fun c => absurd c (by decide)) (fun _ => ?_)
  refine lv_aload_n hx hb d_p10_103_10 rfl (lv_at hl 2 rfl) ?_
  refine lv_iload_n hx hb d_p10_103_11 rfl (lv_at hl 0 rfl) ?_
  refine lv_iload_n hx hb d_p10_103_12 rfl (lv_at hl 3 rfl) ?_
  refine va_iast hx hb hK hP hD hS 0 0 rfl rfl (i := 7) (by unfold vp_in; decide) d_p10_103_13 (fun H locs hP hD hS => ?_)
  have hP : va_P (dC, dI) classes [(aa, .inl (ka, 15, .inl (upd g_7 (Int32.toNatClampNeg 7) 0)))] H := hP
  have hD : va_D A [(aa, .inl (ka, 15, .inl (upd g_7 (Int32.toNatClampNeg 7) 0)))] := hD
  generalize (upd g_7 (Int32.toNatClampNeg 7) 0) = g_8 at hP hD
  refine lv_iinc (v := 8) (lv' := [(2, .int 8), (3, .int 15), (0, .ref aa), (1, .int 0)]) hx hb d_p10_103_14 hl (k := 0) rfl (by decide) (by decide) rfl (fun ls hl => ?_)
  refine lv_goto (tgt := 5) hx hb d_p10_103_17 (by decide) ?_
  refine lv_iload_n hx hb d_p10_103_5 rfl (lv_at hl 0 rfl) ?_
  refine lv_iload_n hx hb d_p10_103_6 rfl (lv_at hl 1 rfl) ?_
  refine lv_icmp_ge (tgt := 20) hx hb d_p10_103_7 (by decide) (fun c => absurd c (by decide)) (fun _ => ?_)
  refine lv_aload_n hx hb d_p10_103_10 rfl (lv_at hl 2 rfl) ?_
  refine lv_iload_n hx hb d_p10_103_11 rfl (lv_at hl 0 rfl) ?_
  refine lv_iload_n hx hb d_p10_103_12 rfl (lv_at hl 3 rfl) ?_
  refine va_iast hx hb hK hP hD hS 0 0 rfl rfl (i := 8) (by unfold vp_in; decide) d_p10_103_13 (fun H locs hP hD hS => ?_)
  have hP : va_P (dC, dI) classes [(aa, .inl (ka, 15, .inl (upd g_8 (Int32.toNatClampNeg 8) 0)))] H := hP
  have hD : va_D A [(aa, .inl (ka, 15, .inl (upd g_8 (Int32.toNatClampNeg 8) 0)))] := hD
  generalize (upd g_8 (Int32.toNatClampNeg 8) 0) = g_9 at hP hD
  refine lv_iinc (v := 9) (lv' := [(2, .int 9), (3, .int 15), (0, .ref aa), (1, .int 0)]) hx hb d_p10_103_14 hl (k := 0) rfl (by decide) (by decide) rfl (fun ls hl => ?_)
  refine lv_goto (tgt := 5) hx hb d_p10_103_17 (by decide) ?_
  refine lv_iload_n hx hb d_p10_103_5 rfl (lv_at hl 0 rfl) ?_
  refine lv_iload_n hx hb d_p10_103_6 rfl (lv_at hl 1 rfl) ?_
  refine lv_icmp_ge (tgt := 20) hx hb d_p10_103_7 (by decide) (fun c => absurd c (by decide)) (fun _ => ?_)
  refine lv_aload_n hx hb d_p10_103_10 rfl (lv_at hl 2 rfl) ?_
  refine lv_iload_n hx hb d_p10_103_11 rfl (lv_at hl 0 rfl) ?_
  refine lv_iload_n hx hb d_p10_103_12 rfl (lv_at hl 3 rfl) ?_
  refine va_iast hx hb hK hP hD hS 0 0 rfl rfl (i := 9) (by unfold vp_in; decide) d_p10_103_13 (fun H locs hP hD hS => ?_)
  have hP : va_P (dC, dI) classes [(aa, .inl (ka, 15, .inl (upd g_9 (Int32.toNatClampNeg 9) 0)))] H := hP
  have hD : va_D A [(aa, .inl (ka, 15, .inl (upd g_9 (Int32.toNatClampNeg 9) 0)))] := hD
  generalize (upd g_9 (Int32.toNatClampNeg 9) 0) = g_10 at hP hD
  refine lv_iinc (v := 10) (lv' := [(2, .int 10), (3, .int 15), (0, .ref aa), (1, .int 0)]) hx hb d_p10_103_14 hl (k := 0) rfl (by decide) (by decide) rfl (fun ls hl => ?_)
  refine lv_goto (tgt := 5) hx hb d_p10_103_17 (by decide) ?_
  refine lv_iload_n hx hb d_p10_103_5 rfl (lv_at hl 0 rfl) ?_
  refine lv_iload_n hx hb d_p10_103_6 rfl (lv_at hl 1 rfl) ?_
  refine lv_icmp_ge (tgt := 20) hx hb d_p10_103_7 (by decide) (fun c => absurd c (by decide)) (fun _ => ?_)
  refine lv_aload_n hx hb d_p10_103_10 rfl (lv_at hl 2 rfl) ?_
  refine lv_iload_n hx hb d_p10_103_11 rfl (lv_at hl 0 rfl) ?_
  refine lv_iload_n hx hb d_p10_103_12 rfl (lv_at hl 3 rfl) ?_
  refine va_iast hx hb hK hP hD hS 0 0 rfl rfl (i := 10) (by unfold vp_in; decide) d_p10_103_13 (fun H locs hP hD hS => ?_)
  have hP : va_P (dC, dI) classes [(aa, .inl (ka, 15, .inl (upd g_10 (Int32.toNatClampNeg 10) 0)))] H := hP
  have hD : va_D A [(aa, .inl (ka, 15, .inl (upd g_10 (Int32.toNatClampNeg 10) 0)))] := hD
  generalize (upd g_10 (Int32.toNatClampNeg 10) 0) = g_11 at hP hD
  refine lv_iinc (v := 11) (lv' := [(2, .int 11), (3, .int 15), (0, .ref aa), (1, .int 0)]) hx hb d_p10_103_14 hl (k := 0) rfl (by decide) (by decide) rfl (fun ls hl => ?_)
  refine lv_goto (tgt := 5) hx hb d_p10_103_17 (by decide) ?_
  refine lv_iload_n hx hb d_p10_103_5 rfl (lv_at hl 0 rfl) ?_
  refine lv_iload_n hx hb d_p10_103_6 rfl (lv_at hl 1 rfl) ?_
  refine lv_icmp_ge (tgt := 20) hx hb d_p10_103_7 (by decide) (fun c => absurd c (by decide)) (fun _ => ?_)
  refine lv_aload_n hx hb d_p10_103_10 rfl (lv_at hl 2 rfl) ?_
  refine lv_iload_n hx hb d_p10_103_11 rfl (lv_at hl 0 rfl) ?_
  refine lv_iload_n hx hb d_p10_103_12 rfl (lv_at hl 3 rfl) ?_
  refine va_iast hx hb hK hP hD hS 0 0 rfl rfl (i := 11) (by unfold vp_in; decide) d_p10_103_13 (fun H locs hP hD hS => ?_)
  have hP : va_P (dC, dI) classes [(aa, .inl (ka, 15, .inl (upd g_11 (Int32.toNatClampNeg 11) 0)))] H := hP
  have hD : va_D A [(aa, .inl (ka, 15, .inl (upd g_11 (Int32.toNatClampNeg 11) 0)))] := hD
  generalize (upd g_11 (Int32.toNatClampNeg 11) 0) = g_12 at hP hD
  refine lv_iinc (v := 12) (lv' := [(2, .int 12), (3, .int 15), (0, .ref aa), (1, .int 0)]) hx hb d_p10_103_14 hl (k := 0) rfl (by decide) (by decide) rfl (fun ls hl => ?_)
  refine lv_goto (tgt := 5) hx hb d_p10_103_17 (by decide) ?_
  refine lv_iload_n hx hb d_p10_103_5 rfl (lv_at hl 0 rfl) ?_
  refine lv_iload_n hx hb d_p10_103_6 rfl (lv_at hl 1 rfl) ?_
  refine lv_icmp_ge (tgt := 20) hx hb d_p10_103_7 (by decide) (fun c => absurd c (by decide)) (fun _ => ?_)
  refine lv_aload_n hx hb d_p10_103_10 rfl (lv_at hl 2 rfl) ?_
  refine lv_iload_n hx hb d_p10_103_11 rfl (lv_at hl 0 rfl) ?_
  refine lv_iload_n hx hb d_p10_103_12 rfl (lv_at hl 3 rfl) ?_
  refine va_iast hx hb hK hP hD hS 0 0 rfl rfl (i := 12) (by unfold vp_in; decide) d_p10_103_13 (fun H locs hP hD hS => ?_)
  have hP : va_P (dC, dI) classes [(aa, .inl (ka, 15, .inl (upd g_12 (Int32.toNatClampNeg 12) 0)))] H := hP
  have hD : va_D A [(aa, .inl (ka, 15, .inl (upd g_12 (Int32.toNatClampNeg 12) 0)))] := hD
  generalize (upd g_12 (Int32.toNatClampNeg 12) 0) = g_13 at hP hD
  refine lv_iinc (v := 13) (lv' := [(2, .int 13), (3, .int 15), (0, .ref aa), (1, .int 0)]) hx hb d_p10_103_14 hl (k := 0) rfl (by decide) (by decide) rfl (fun ls hl => ?_)
  refine lv_goto (tgt := 5) hx hb d_p10_103_17 (by decide) ?_
  refine lv_iload_n hx hb d_p10_103_5 rfl (lv_at hl 0 rfl) ?_
  refine lv_iload_n hx hb d_p10_103_6 rfl (lv_at hl 1 rfl) ?_
  refine lv_icmp_ge (tgt := 20) hx hb d_p10_103_7 (by decide) (fun c => absurd c (by decide)) (fun _ => ?_)
  refine lv_aload_n hx hb d_p10_103_10 rfl (lv_at hl 2 rfl) ?_
  refine lv_iload_n hx hb d_p10_103_11 rfl (lv_at hl 0 rfl) ?_
  refine lv_iload_n hx hb d_p10_103_12 rfl (lv_at hl 3 rfl) ?_
  refine va_iast hx hb hK hP hD hS 0 0 rfl rfl (i := 13) (by unfold vp_in; decide) d_p10_103_13 (fun H locs hP hD hS => ?_)
  have hP : va_P (dC, dI) classes [(aa, .inl (ka, 15, .inl (upd g_13 (Int32.toNatClampNeg 13) 0)))] H := hP
  have hD : va_D A [(aa, .inl (ka, 15, .inl (upd g_13 (Int32.toNatClampNeg 13) 0)))] := hD
  generalize (upd g_13 (Int32.toNatClampNeg 13) 0) = g_14 at hP hD
  refine lv_iinc (v := 14) (lv' := [(2, .int 14), (3, .int 15), (0, .ref aa), (1, .int 0)]) hx hb d_p10_103_14 hl (k := 0) rfl (by decide) (by decide) rfl (fun ls hl => ?_)
  refine lv_goto (tgt := 5) hx hb d_p10_103_17 (by decide) ?_
  refine lv_iload_n hx hb d_p10_103_5 rfl (lv_at hl 0 rfl) ?_
  refine lv_iload_n hx hb d_p10_103_6 rfl (lv_at hl 1 rfl) ?_
  refine lv_icmp_ge (tgt := 20) hx hb d_p10_103_7 (by decide) (fun c => absurd c (by decide)) (fun _ => ?_)
  refine lv_aload_n hx hb d_p10_103_10 rfl (lv_at hl 2 rfl) ?_
  refine lv_iload_n hx hb d_p10_103_11 rfl (lv_at hl 0 rfl) ?_
  refine lv_iload_n hx hb d_p10_103_12 rfl (lv_at hl 3 rfl) ?_
  refine va_iast hx hb hK hP hD hS 0 0 rfl rfl (i := 14) (by unfold vp_in; decide) d_p10_103_13 (fun H locs hP hD hS => ?_)
  have hP : va_P (dC, dI) classes [(aa, .inl (ka, 15, .inl (upd g_14 (Int32.toNatClampNeg 14) 0)))] H := hP
  have hD : va_D A [(aa, .inl (ka, 15, .inl (upd g_14 (Int32.toNatClampNeg 14) 0)))] := hD
  generalize (upd g_14 (Int32.toNatClampNeg 14) 0) = g_15 at hP hD
  refine lv_iinc (v := 15) (lv' := [(2, .int 15), (3, .int 15), (0, .ref aa), (1, .int 0)]) hx hb d_p10_103_14 hl (k := 0) rfl (by decide) (by decide) rfl (fun ls hl => ?_)
  refine lv_goto (tgt := 5) hx hb d_p10_103_17 (by decide) ?_
  refine lv_iload_n hx hb d_p10_103_5 rfl (lv_at hl 0 rfl) ?_
  refine lv_iload_n hx hb d_p10_103_6 rfl (lv_at hl 1 rfl) ?_
  refine lv_icmp_ge (tgt := 20) hx hb d_p10_103_7 (by decide) (fun _ => ?_) (fun c => absurd (by decide) c)
  have hP9 := hP.sub (ws' := []) [] rfl
  have hD9 := hD.sub (ws' := []) [] (by decide) rfl
  have hK9 := hK.sub (tys' := []) [] rfl
  exact W.vret hx hb hr (fun t ht hW => ⟨⟨(), rfl, trivial, cEnd_mk hP9 hK9 hD9 ht hW⟩, hS.F ht⟩) hS.2.2 d_p10_103_20

set_option maxHeartbeats 4000000 in
set_option maxRecDepth 100000 in
theorem c_fill_J (l : Launch) (dC : Nat → ClassId) (dI : Nat → Nat → Nat) (aa : Nat) (ka : ClassId) (fa : Nat → Int64) (sz : Nat) : Met l ({ cls := "java/util/Arrays", name := "fill", desc := "([JJ)V" } : Jvm.MethodName) (ww ({ cls := "java/util/Arrays", name := "fill", desc := "([JJ)V" } : Jvm.MethodName) prog_10_method_101_code 5 none) ({ frames := 0, cells := 0, slots := 0, locals := 0 }) (va_Pc [.ref aa, .long 0] (cPre (dC, dI) [(aa, .inl (ka, 1, .inr (.inl fa)))] [(ka, .long)] sz)) (va_Qv (fun _ : Unit => True) (cEnd (dC, dI) [(aa, .inl (ka, 1, .inr (.inl (vp_updL fa (Int32.toNatClampNeg 0) 0))))] [(ka, .long)] (va_A [(aa, .inl (ka, 1, .inr (.inl fa)))] sz)) (va_A [(aa, .inl (ka, 1, .inr (.inl fa)))] sz)) 0 0 (va_A [(aa, .inl (ka, 1, .inr (.inl fa)))] sz) := by
  refine Met.ofW (cc := prog_10_method_101_code) (maxL := 5) (ret := none) (by decide) rfl ?_
  intro p e s m args below meth c s₁ B hml hv
  obtain ⟨rfl, hsz, hP, hK, hD0, hN⟩ := hv
  have hx := B.exec
  have hb := B.bytes
  have hr := B.returns
  have hts := ww_hts (atoms_spec (ws := ww ({ cls := "java/util/Arrays", name := "fill", desc := "([JJ)V" } : Jvm.MethodName) prog_10_method_101_code 5 none) B.pre)
  have hown : s.vm.findClass "java/util/Arrays" = some m.cls := findClass_of_methodNamed B.named
  have hlocks := B.notSynchronized
  subst hsz
  have hD := hD0.self (sz := s.heap.size)
  generalize hAe : va_A [(aa, .inl (ka, 1, .inr (.inl fa)))] s.heap.size = A at hD ⊢
  have hA : ∀ q : Nat, s.heap.size ≤ q → A q := fun q h => by rw [← hAe]; exact Or.inr h
  have hS : va_S A s.heap s.heap [] := va_S.rf
  have hP : va_P (dC, dI) classes [(aa, .inl (ka, 1, .inr (.inl fa)))] s.heap := hP
  have hl := lv_entry ([.ref aa, .long 0]) (n := 5) (Nat.le_of_ble_eq_true rfl)
  rw [lg_entry_eq]
  generalize (lg_sl ([.ref aa, .long 0]) ++ List.replicate (5 - (lg_sl ([.ref aa, .long 0])).length) Slot.unset).toArray = ls at hl ⊢
  have hl : lv_has ls 5 [(0, .ref aa), (1, .long 0)] := hl
  refine lv_iconst (v := 0) hx hb d_p10_101_0 (by decide) ?_
  refine lv_istore_n (lv' := [(3, .int 0), (0, .ref aa), (1, .long 0)]) hx hb d_p10_101_1 rfl hl (by decide) rfl (fun ls hl => ?_)
  refine lv_aload_n hx hb d_p10_101_2 rfl (lv_at hl 1 rfl) ?_
  refine va_alen (v := 1) hx hb hK hP 0 0 rfl rfl rfl d_p10_101_3 ?_
  refine lv_istore (lv' := [(4, .int 1), (3, .int 0), (0, .ref aa), (1, .long 0)]) hx hb d_p10_101_4 hl (by decide) rfl (fun ls hl => ?_)
  refine lv_iload_n hx hb d_p10_101_6 rfl (lv_at hl 1 rfl) ?_
  refine lv_iload hx hb d_p10_101_7 (lv_at hl 0 rfl) ?_
  refine lv_icmp_ge (tgt := 22) hx hb d_p10_101_9 (by decide) (fun c => absurd c (by decide)) (fun _ => ?_)
  refine lv_aload_n hx hb d_p10_101_12 rfl (lv_at hl 2 rfl) ?_
  refine lv_iload_n hx hb d_p10_101_13 rfl (lv_at hl 1 rfl) ?_
  refine lv_lload_n hx hb d_p10_101_14 rfl (lv_at hl 3 rfl) ?_
  refine va_last hx hb hK hP hD hS 0 0 rfl rfl (i := 0) (by unfold vp_in; decide) d_p10_101_15 (fun H locs hP hD hS => ?_)
  have hP : va_P (dC, dI) classes [(aa, .inl (ka, 1, .inr (.inl (vp_updL fa (Int32.toNatClampNeg 0) 0))))] H := hP
  have hD : va_D A [(aa, .inl (ka, 1, .inr (.inl (vp_updL fa (Int32.toNatClampNeg 0) 0))))] := hD
  refine lv_iinc (v := 1) (lv' := [(3, .int 1), (4, .int 1), (0, .ref aa), (1, .long 0)]) hx hb d_p10_101_16 hl (k := 1) rfl (by decide) (by decide) rfl (fun ls hl => ?_)
  refine lv_goto (tgt := 6) hx hb d_p10_101_19 (by decide) ?_
  refine lv_iload_n hx hb d_p10_101_6 rfl (lv_at hl 0 rfl) ?_
  refine lv_iload hx hb d_p10_101_7 (lv_at hl 1 rfl) ?_
  refine lv_icmp_ge (tgt := 22) hx hb d_p10_101_9 (by decide) (fun _ => ?_) (fun c => absurd (by decide) c)
  have hP9 := hP.sub (ws' := [(aa, .inl (ka, 1, .inr (.inl (vp_updL fa (Int32.toNatClampNeg 0) 0))))]) [0] rfl
  have hD9 := hD.sub (ws' := [(aa, .inl (ka, 1, .inr (.inl (vp_updL fa (Int32.toNatClampNeg 0) 0))))]) [0] (by decide) rfl
  have hK9 := hK.sub (tys' := [(ka, .long)]) [0] rfl
  exact W.vret hx hb hr (fun t ht hW => ⟨⟨(), rfl, trivial, cEnd_mk hP9 hK9 hD9 ht hW⟩, hS.F ht⟩) hS.2.2 d_p10_101_22

set_option maxHeartbeats 4000000 in
set_option maxRecDepth 100000 in
theorem c_bitCount_0 (l : Launch) (dC : Nat → ClassId) (dI : Nat → Nat → Nat)  (sz : Nat) : Met l ({ cls := "java/lang/Integer", name := "bitCount", desc := "(I)I" } : Jvm.MethodName) (ww ({ cls := "java/lang/Integer", name := "bitCount", desc := "(I)I" } : Jvm.MethodName) prog_8_method_49_code 1 (some .int)) ({ frames := 0, cells := 0, slots := 0, locals := 0 }) (va_Pc [.int 0] (cPre (dC, dI) [] [] sz)) (va_Qi (fun (r : Int32) (_ : Unit) => r = 0) (cEnd (dC, dI) [] [] (va_A [] sz)) (va_A [] sz)) 0 0 (va_A [] sz) := by
  refine Met.ofW (cc := prog_8_method_49_code) (maxL := 1) (ret := (some .int)) (by decide) rfl ?_
  intro p e s m args below meth c s₁ B hml hv
  obtain ⟨rfl, hsz, hP, hK, hD0, hN⟩ := hv
  have hx := B.exec
  have hb := B.bytes
  have hr := B.returns
  have hts := ww_hts (atoms_spec (ws := ww ({ cls := "java/lang/Integer", name := "bitCount", desc := "(I)I" } : Jvm.MethodName) prog_8_method_49_code 1 (some .int)) B.pre)
  have hown : s.vm.findClass "java/lang/Integer" = some m.cls := findClass_of_methodNamed B.named
  have hlocks := B.notSynchronized
  subst hsz
  have hD := hD0.self (sz := s.heap.size)
  generalize hAe : va_A [] s.heap.size = A at hD ⊢
  have hA : ∀ q : Nat, s.heap.size ≤ q → A q := fun q h => by rw [← hAe]; exact Or.inr h
  have hS : va_S A s.heap s.heap [] := va_S.rf
  have hP : va_P (dC, dI) classes [] s.heap := hP
  have hl := lv_entry ([.int 0]) (n := 1) (Nat.le_of_ble_eq_true rfl)
  rw [lg_entry_eq]
  generalize (lg_sl ([.int 0]) ++ List.replicate (1 - (lg_sl ([.int 0])).length) Slot.unset).toArray = ls at hl ⊢
  have hl : lv_has ls 1 [(0, .int 0)] := hl
  refine lv_iload_n hx hb d_p8_49_0 rfl (lv_at hl 0 rfl) ?_
  refine lv_iload_n hx hb d_p8_49_1 rfl (lv_at hl 0 rfl) ?_
  refine lv_iconst (v := 1) hx hb d_p8_49_2 (by decide) ?_
  refine lv_iushr (v := 0) hx hb d_p8_49_3 (by decide) ?_
  refine lv_ldcw (v := 1431655765) hx hb hown (hts _ tw_418) d_p8_49_4 ?_
  refine lv_iand hx hb d_p8_49_7 ?_
  refine lv_topi (fun z_1 ez_1 => ?_)
  obtain rfl : z_1 = (0 : Int32) := ez_1.trans (by decide)
  refine lv_isub hx hb d_p8_49_8 ?_
  refine lv_topi (fun z_2 ez_2 => ?_)
  obtain rfl : z_2 = (0 : Int32) := ez_2.trans (by decide)
  refine lv_istore_n (lv' := [(0, .int 0)]) hx hb d_p8_49_9 rfl hl (by decide) rfl (fun ls hl => ?_)
  refine lv_iload_n hx hb d_p8_49_10 rfl (lv_at hl 0 rfl) ?_
  refine lv_ldcw (v := 858993459) hx hb hown (hts _ tw_419) d_p8_49_11 ?_
  refine lv_iand hx hb d_p8_49_14 ?_
  refine lv_topi (fun z_3 ez_3 => ?_)
  obtain rfl : z_3 = (0 : Int32) := ez_3.trans (by decide)
  refine lv_iload_n hx hb d_p8_49_15 rfl (lv_at hl 0 rfl) ?_
  refine lv_iconst (v := 2) hx hb d_p8_49_16 (by decide) ?_
  refine lv_iushr (v := 0) hx hb d_p8_49_17 (by decide) ?_
  refine lv_ldcw (v := 858993459) hx hb hown (hts _ tw_419) d_p8_49_18 ?_
  refine lv_iand hx hb d_p8_49_21 ?_
  refine lv_topi (fun z_4 ez_4 => ?_)
  obtain rfl : z_4 = (0 : Int32) := ez_4.trans (by decide)
  refine lv_iadd hx hb d_p8_49_22 ?_
  refine lv_topi (fun z_5 ez_5 => ?_)
  obtain rfl : z_5 = (0 : Int32) := ez_5.trans (by decide)
  refine lv_istore_n (lv' := [(0, .int 0)]) hx hb d_p8_49_23 rfl hl (by decide) rfl (fun ls hl => ?_)
  refine lv_iload_n hx hb d_p8_49_24 rfl (lv_at hl 0 rfl) ?_
  refine lv_iload_n hx hb d_p8_49_25 rfl (lv_at hl 0 rfl) ?_
  refine lv_iconst (v := 4) hx hb d_p8_49_26 (by decide) ?_
  refine lv_iushr (v := 0) hx hb d_p8_49_27 (by decide) ?_
  refine lv_iadd hx hb d_p8_49_28 ?_
  refine lv_topi (fun z_6 ez_6 => ?_)
  obtain rfl : z_6 = (0 : Int32) := ez_6.trans (by decide)
  refine lv_ldcw (v := 252645135) hx hb hown (hts _ tw_420) d_p8_49_29 ?_
  refine lv_iand hx hb d_p8_49_32 ?_
  refine lv_topi (fun z_7 ez_7 => ?_)
  obtain rfl : z_7 = (0 : Int32) := ez_7.trans (by decide)
  refine lv_istore_n (lv' := [(0, .int 0)]) hx hb d_p8_49_33 rfl hl (by decide) rfl (fun ls hl => ?_)
  refine lv_iload_n hx hb d_p8_49_34 rfl (lv_at hl 0 rfl) ?_
  refine lv_iload_n hx hb d_p8_49_35 rfl (lv_at hl 0 rfl) ?_
  refine lv_bipush (v := 8) hx hb d_p8_49_36 (by decide) ?_
  refine lv_iushr (v := 0) hx hb d_p8_49_38 (by decide) ?_
  refine lv_iadd hx hb d_p8_49_39 ?_
  refine lv_topi (fun z_8 ez_8 => ?_)
  obtain rfl : z_8 = (0 : Int32) := ez_8.trans (by decide)
  refine lv_istore_n (lv' := [(0, .int 0)]) hx hb d_p8_49_40 rfl hl (by decide) rfl (fun ls hl => ?_)
  refine lv_iload_n hx hb d_p8_49_41 rfl (lv_at hl 0 rfl) ?_
  refine lv_iload_n hx hb d_p8_49_42 rfl (lv_at hl 0 rfl) ?_
  refine lv_bipush (v := 16) hx hb d_p8_49_43 (by decide) ?_
  refine lv_iushr (v := 0) hx hb d_p8_49_45 (by decide) ?_
  refine lv_iadd hx hb d_p8_49_46 ?_
  refine lv_topi (fun z_9 ez_9 => ?_)
  obtain rfl : z_9 = (0 : Int32) := ez_9.trans (by decide)
  refine lv_istore_n (lv' := [(0, .int 0)]) hx hb d_p8_49_47 rfl hl (by decide) rfl (fun ls hl => ?_)
  refine lv_iload_n hx hb d_p8_49_48 rfl (lv_at hl 0 rfl) ?_
  refine lv_bipush (v := 63) hx hb d_p8_49_49 (by decide) ?_
  refine lv_iand hx hb d_p8_49_51 ?_
  refine lv_topi (fun z_10 ez_10 => ?_)
  obtain rfl : z_10 = (0 : Int32) := ez_10.trans (by decide)
  have hP9 := hP.sub (ws' := []) [] rfl
  have hD9 := hD.sub (ws' := []) [] (by decide) rfl
  have hK9 := hK.sub (tys' := []) [] rfl
  exact W.iret (v := 0) hx hb hr (fun t ht hW => ⟨⟨0, (), rfl, rfl, cEnd_mk hP9 hK9 hD9 ht hW⟩, hS.F ht⟩) hS.2.2 d_p8_49_52
