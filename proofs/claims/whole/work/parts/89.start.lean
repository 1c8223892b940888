section START
set_option maxRecDepth 100000 in
set_option maxHeartbeats 1000000 in
/-- the law, from its entry on, in pure words -/
theorem law0 {sc : PSc} {nm : String} (hL : sc.1 ≤ 3072) : PW sc (mLaw nm) 31 (0 + (0 + 1 + 1 + 1 + 1 + 1 + 1 + 1 + 1 + 1 + 1 + 1 + 1 + 1 + 1 + 1 + 1 + 1 + 1 + 1 + 1 + 1 + 1 + 1 + 1 + 1 + 1 + 1 + 1 + 1) + 1 + (0 + (0 + 0 + 1 + (0 + 1) + 1) + 1 + (0 + 0 + 1 + (0 + 1) + 1) + 1 + (0 + 1 + 1 + 1 + (0 + 1) + 1 + (0 + 1 + 1 + 1 + 1 + 1) + 1) + 1 + (0 + 1 + 1 + 1 + (0 + 1) + 1 + (0 + 1 + 1 + 1 + 1 + 1) + 1) + 1 + 0 + 1 + (0 + 0 + 1 + (0 + 1 + 1 + 1 + 1 + 1 + 1) + 1 + (0 + 1 + 1 + 1 + 1 + 1) + 1 + (0 + 1) + 1) + 1 + (0 + 1 + 1 + 1) + 1 + (0 + 1 + 1 + 1 + 1 + 1 + 1) + 1 + 1 + 1 + (4 * 10 + 1) + 1 + (0 + 0 + 1 + (0 + 1) + 1) + 1 + (0 + 1) + 1) + 1) (0 + (0 + 29 + 8 + 6 + 6 + 200 + 200 + 200 + 200 + 6 + 6 + 24 + 6 + 6 + 6 + 100 + 40 + 40 + 200 + 200 + 200 + 116 + 4 + 2 + 58 + 290 + 29 + 6 + 6 + 6) + pw_fn 11 + (0 + (0 + 0 + pw_fn 4 + (0 + 6) + pw_fn 5) + pw_fn 7 + (0 + 0 + pw_fn 4 + (0 + 6) + pw_fn 5) + pw_fn 7 + (0 + 6 + 6 + 6 + (0 + 6) + pw_fn 5 + (0 + 116 + 116 + 116 + 116 + 116) + pw_fn 8) + pw_fn 9 + (0 + 6 + 6 + 6 + (0 + 6) + pw_fn 5 + (0 + 116 + 116 + 116 + 116 + 116) + pw_fn 8) + pw_fn 9 + 0 + pw_fn 4 + (0 + 0 + 32 + (0 + 6 + 6 + 6 + 4 + 4 + 4) + pw_fn 2 + (0 + 12 + 12 + 12 + 12 + 12) + pw_fn 8 + (0 + 6) + pw_fn 5) + pw_fn 0 + (0 + 116 + 116 + 116) + pw_fn 1 + (0 + 6 + 6 + 6 + 4 + 4 + 4) + pw_fn 2 + 2 + 2 + (14 * 10 + 10) + pw_fn 3 + (0 + 0 + pw_fn 4 + (0 + 6) + pw_fn 5) + pw_fn 7 + (0 + 100) + pw_fn 6) + pw_fn 10) LPo 0 (pw_L0 [.inr (some 100000)] 4) [] [] (fun _ _ => 0) (fun _ _ => none) := by
  refine PW.new' (pc := 0) (b := 0) dL_law_0 cl_X10 nw_L_7 kd_X10 rfl (by omega) (fun G0 x0 n0 => ?_)
  refine PW.dup (pc := 3) dL_law_3 ?_
  refine PW.invI (μ := mLaw nm) (pc := 4) dL_law_4 mi_L_9 (c_X10_init 25 x0.1 n0) rfl rfl (Nat.le_of_ble_eq_true rfl) ?_
  rintro v G1 I1 R1 ⟨rfl, x1, h1⟩
  refine PW.astore_n (pc := 7) dL_law_7 (Nat.le_of_ble_eq_true rfl) ?_
  refine PW.new' (pc := 8) (b := 112) dL_law_8 cl_X11 nw_L_10 kd_X11 x1.1 (by omega) (fun G2 x2 n2 => ?_)
  refine PW.dup (pc := 11) dL_law_11 ?_
  refine PW.invI (μ := mLaw nm) (pc := 12) dL_law_12 mi_L_12 (c_X11_init 27 x2.1 n2 (pw_zi_self _ _)) rfl rfl (Nat.le_of_ble_eq_true rfl) ?_
  rintro v G3 I3 R3 ⟨rfl, x3, f3, M, V⟩
  refine PW.astore_n (pc := 15) dL_law_15 (Nat.le_of_ble_eq_true rfl) ?_
  refine PW.iconst (pc := 16) dL_law_16 ?_
  refine PW.istore_n (pc := 17) dL_law_17 (Nat.le_of_ble_eq_true rfl) ?_
  exact law_loop hL _ 0 cs0 I3 R3 rfl (by omega) (by omega) (h1.ext (x2.tr x3).2 (fun q g => by rw [(f3 q g).1, pw_zi_ne (by omega)]) (fun q g => by rw [(f3 q g).2, pw_zr_ne (by omega)])) M V
set_option maxRecDepth 100000 in
set_option maxHeartbeats 1000000 in
theorem lw_ar {s : State} {ty : FieldType} {cA comp : ClassId} {kA : Class} (h2 : s.vm.classes[cA]? = some kA) (h3 : kA.kind = .array comp ty) : ArrOfT s cA ty := fun n z => ⟨fun k h => (by cases h), kA, h2, comp, h3⟩
set_option maxRecDepth 100000 in
set_option maxHeartbeats 1000000 in
theorem lw_K {s : State} {args : Array Value} (hts : ∀ x ∈ pw_gw, x.before args s = true) (hao : va_AO "FlushedPipes$Setting" s) : ∃ (G : va_G) (cI cZ cS : ClassId), va_K G vwCl [(cI, .int), (cZ, .boolean), (cS, .object "FlushedPipes$Setting")] s := by
  obtain ⟨c0, i0, k0⟩ := u_known hts cl_X0.2.1 (hts _ nw_X10_52.2.1)
  obtain ⟨c1, i1, k1⟩ := u_known hts cl_X1.2.1 (hts _ nw_X10_45.2.1)
  obtain ⟨c2, i2, k2⟩ := u_known hts cl_X2.2.1 (hts _ nw_X10_38.2.1)
  obtain ⟨c3, i3, k3⟩ := u_known hts cl_X3.2.1 (hts _ nw_X10_23.2.1)
  obtain ⟨c4, i4, k4⟩ := u_known hts cl_X4.2.1 (hts _ nw_X10_59.2.1)
  obtain ⟨c5, i5, k5⟩ := u_known hts cl_X5.2.1 (hts _ nw_X0_9.2.1)
  obtain ⟨c6, i6, k6⟩ := u_known hts cl_X6.2.1 (hts _ nw_X10_9.2.1)
  obtain ⟨c7, i7, k7⟩ := u_known hts cl_X7.2.1 (hts _ nw_X10_16.2.1)
  obtain ⟨c8, i8, k8⟩ := u_known hts cl_X8.2.1 (hts _ nw_X0_18.2.1)
  obtain ⟨c9, i9, k9⟩ := u_known hts cl_X9.2.1 (hts _ nw_X10_66.2.1)
  obtain ⟨c10, i10, k10⟩ := u_known hts cl_X10.2.1 (hts _ nw_L_7.2.1)
  obtain ⟨c11, i11, k11⟩ := u_known hts cl_X11.2.1 (hts _ nw_L_10.2.1)
  have H : ∀ k : Nat, ∃ (cC : ClassId) (iS : Nat → Nat), ∀ q : vw_C, vwCl[k]? = some q → u_Kn s q.1 q.2.1 q.2.2 cC iS := by
    intro k
    match k with
    | 0 => exact ⟨c0, i0, fun q hq => by obtain rfl : (RX0, TX0, 4) = q := Option.some.inj hq; exact k0⟩
    | 1 => exact ⟨c1, i1, fun q hq => by obtain rfl : (RX1, TX1, 4) = q := Option.some.inj hq; exact k1⟩
    | 2 => exact ⟨c2, i2, fun q hq => by obtain rfl : (RX2, TX2, 6) = q := Option.some.inj hq; exact k2⟩
    | 3 => exact ⟨c3, i3, fun q hq => by obtain rfl : (RX3, TX3, 2) = q := Option.some.inj hq; exact k3⟩
    | 4 => exact ⟨c4, i4, fun q hq => by obtain rfl : (RX4, TX4, 3) = q := Option.some.inj hq; exact k4⟩
    | 5 => exact ⟨c5, i5, fun q hq => by obtain rfl : (RX5, TX5, 2) = q := Option.some.inj hq; exact k5⟩
    | 6 => exact ⟨c6, i6, fun q hq => by obtain rfl : (RX6, TX6, 3) = q := Option.some.inj hq; exact k6⟩
    | 7 => exact ⟨c7, i7, fun q hq => by obtain rfl : (RX7, TX7, 3) = q := Option.some.inj hq; exact k7⟩
    | 8 => exact ⟨c8, i8, fun q hq => by obtain rfl : (RX8, TX8, 7) = q := Option.some.inj hq; exact k8⟩
    | 9 => exact ⟨c9, i9, fun q hq => by obtain rfl : (RX9, TX9, 6) = q := Option.some.inj hq; exact k9⟩
    | 10 => exact ⟨c10, i10, fun q hq => by obtain rfl : (RX10, TX10, 13) = q := Option.some.inj hq; exact k10⟩
    | 11 => exact ⟨c11, i11, fun q hq => by obtain rfl : (RX11, TX11, 41) = q := Option.some.inj hq; exact k11⟩
    | k + 12 => exact ⟨c0, i0, fun q hq => by simp [vwCl] at hq⟩
  obtain ⟨cI, kI, mI, a1, a2, a3⟩ := Cond.arrayClass_spec (hts _ wd_ai)
  obtain ⟨cZ, kZ, mZ, b1, b2, b3⟩ := Cond.arrayClass_spec (hts _ wd_az)
  obtain ⟨comp, cS, kS, d1, d2, d3, d4, d5⟩ := Cond.arrayOver_spec hao
  refine ⟨(fun k => Classical.choose (H k), fun k => Classical.choose (Classical.choose_spec (H k))), cI, cZ, cS, fun k q hq => Classical.choose_spec (Classical.choose_spec (H k)) q hq, fun k q hq => ?_⟩
  match k, hq with
  | 0, hq => obtain rfl : (cI, FieldType.int) = q := Option.some.inj hq; exact ⟨lw_ar a2 a3, a1⟩
  | 1, hq => obtain rfl : (cZ, FieldType.boolean) = q := Option.some.inj hq; exact ⟨lw_ar b2 b3, b1⟩
  | 2, hq => obtain rfl : (cS, FieldType.object "FlushedPipes$Setting") = q := Option.some.inj hq; exact ⟨lw_ar d3 d4, kS, comp, d3, d4, d1, d5⟩
  | k + 3, hq => simp at hq
set_option maxRecDepth 100000 in
set_option maxHeartbeats 1000000 in
theorem lw_N {s : State} {args : Array Value} (hts : ∀ x ∈ lw_tbl, x.before args s = true) : ∀ c ∈ pw_nest, va_Nw c s := by
  intro c hc
  obtain ⟨h1, h2⟩ := List.mem_filter.mp hc
  cases c with
  | methodLinkNest a b d e => exact va_Nw.of rfl (hts _ h1)
  | _ => exact absurd h2 Bool.false_ne_true
end START
