section INIT3
variable {sc : PSc} {Γ : List PTy} {I : PIm} {R : PRm}
def hps (i : Int) : Nat := 7 + 2 + 4 * i.toNat
/-- what the constructor has made, but for the images -/
def PreC (G : List PTy) (J : PIm) (Q : PRm) : Prop := (G[0]? = some (.inl 10) ∧ Q 0 0 = some 1 ∧ Q 0 1 = some 3 ∧ Q 0 2 = some 7 ∧ Q 0 3 = some 49 ∧ Q 0 4 = some 50 ∧ Q 0 5 = some 51 ∧ Q 0 6 = some 58 ∧ Q 0 7 = some 62 ∧ Q 0 8 = some 79 ∧ Q 0 9 = some 80 ∧ Q 0 10 = some 92) ∧ (ReadAt G Q 1 ∧ SetAt G Q 3 ∧ (HistAt G Q 7 ∧ HPos G Q 7 hps) ∧ G[49]? = some (.inr (2, 2)) ∧ G[50]? = some (.inr (1, 2)) ∧ FlowAt G Q 51 ∧ ClosAt G Q 58 ∧ BrkAt G Q 62 ∧ G[79]? = some (.inl 4) ∧ ToldAt G Q 80 ∧ ToldAt G Q 92) ∧ (J 1 1 = 0 ∧ BrkIs J 62 ∧ (Base J 81 ∧ J 81 6 = 4 ∧ J 87 1 = 0 ∧ J 80 5 = 0) ∧ Base J 93)
set_option maxRecDepth 100000 in
set_option maxHeartbeats 1000000 in
theorem PreC.ext {G G' : List PTy} {J J' : PIm} {Q Q' : PRm} (h : PreC G J Q) (x : ∀ (q : Nat) (T : PTy), G[q]? = some T → G'[q]? = some T) (e : ∀ q, q < 104 → q ≠ 49 → Q' q = Q q) (eI : ∀ q, q < 104 → J' q = J q) : PreC G' J' Q' := by
  obtain ⟨⟨c0, c⟩, ⟨a1, a2, ⟨a3, a3'⟩, a4, a5, a6, a7, a8, a9, a10, a11⟩, b1, b2, ⟨b3, b4, b5, b6⟩, b7⟩ := h
  unfold PreC
  rw [e 0 (by omega) (by omega), eI 1 (by omega), eI 80 (by omega), eI 81 (by omega), eI 87 (by omega)]
  exact ⟨⟨x _ _ c0, c⟩, ⟨a1.ext x (e _ (by omega) (by omega)), a2.ext x (fun q _ _ => e q (by omega) (by omega)), ⟨a3.ext x (e _ (by omega) (by omega)), a3'.ext x (fun q _ _ => e q (by omega) (by omega))⟩, x _ _ a4, x _ _ a5, a6.ext x (e _ (by omega) (by omega)), a7.ext x (e _ (by omega) (by omega)), a8.ext x (fun q _ _ => e q (by omega) (by omega)), x _ _ a9, a10.ext x (fun q _ _ => e q (by omega) (by omega)), a11.ext x (fun q _ _ => e q (by omega) (by omega))⟩, b1, b2.congr (fun q _ _ => eI q (by omega)), ⟨b3.of (fun q _ _ => eI q (by omega)), b4, b5, b6⟩, b7.of (fun q _ _ => eI q (by omega))⟩
def sv0 : SV := (fun _ => 0, 0, 2, 0, 0, pw_shl 1 0 - 1)
/-- the state of a new object -/
def cs0 : CS := ((fun _ => 0, 0), pstart.1, sv0, (0, fun _ => sv0), (fun _ => (0, sv0)), (0, fun _ => (0, sv0)))
set_option maxRecDepth 100000 in
set_option maxHeartbeats 1000000 in
theorem UF0 (u : Tm) : UT tc 4 u ↔ UF pstart.1 u := by
  constructor
  · rintro ⟨i, i0, i1, e⟩
    exact Or.inl ⟨i, i0, i1, e.symm⟩
  · rintro (⟨i, i0, i1, e⟩ | ⟨k, k0, k1, -⟩)
    · exact ⟨i, i0, i1, e.symm⟩
    · exact absurd k1 (by show ¬ k < ((0 : Nat) : Int); omega)
set_option maxRecDepth 100000 in
set_option maxHeartbeats 1000000 in
theorem okF0 : okF cs0 sv0 := ⟨⟨by decide, fun k k0 k1 => absurd k1 (by show ¬ k < ((0 : Nat) : Int); omega), (show (0 : Int) ≤ 2 ∧ (2 : Int) ≤ 3 by omega), (show (0 : Int) ≤ 0 ∧ (0 : Int) ≤ 7 by omega), (show (0 : Int) ≤ 0 ∧ (0 : Int) ≤ 1 by omega), (shl_all ⟨0, by omega⟩).1, (shl_all ⟨0, by omega⟩).2.2⟩, (shl_all ⟨0, by omega⟩).2.1⟩
set_option maxRecDepth 100000 in
set_option maxHeartbeats 1000000 in
theorem lp_img2 (d : Nat) {G : List PTy} {J : PIm} {Q : PRm} (h : PreC G J Q) (xG : Gex Γ G 112) (s4 : SetAt G Q 104) (s8 : SetAt G Q 108) (r0 : Q 49 0 = some 104) (r1 : Q 49 1 = some 108) : PW sc mX10_init (d + 5) (0) (0) (fun v Γ' I' R' => v = none ∧ Gex Γ Γ' 112 ∧ CRel Γ' cs0 I' R') 120 [some (.inr (some 0)), some (.inl 2)] [] G J Q := by
  obtain ⟨⟨c0, k0, k1, k2, k3, k4, k5, k6, k7, k8, k9, k10⟩, ⟨a1, a2, ⟨a3, a3'⟩, a4, a5, a6, a7, a8, a9, a10, a11⟩, b1, b2, ⟨b3, b4, b5, b6⟩, b7⟩ := id h
  have PO : ProgOK J (80 + 7) (fun _ => 0) 0 := ⟨b5, by decide, fun k k0 k1 => absurd k1 (by show ¬ k < ((0 : Nat) : Int); omega)⟩
  refine PW.iload_n (pc := 120) dX10_init_120 rfl ?_
  refine PW.iconst (pc := 121) dX10_init_121 ?_
  refine PW.icmp_ge (pc := 122) (tgt := 144) dX10_init_122 (by decide) (by first | omega | exact rg_of _) (by first | omega | exact rg_of _) (fun c_122 => ?_) (fun c_122 => ?_)
  · refine PW.aload_n (pc := 144) dX10_init_144 rfl ?_
    refine PW.invV0 (pc := 145) dX10_init_145 mv_X10_76 (c_X10_startAsTold _ c0 k1 k2 k4 k9 a2 a3 a10 a5 PO (by omega)) (by first | assumption | rfl) rfl rfl (Nat.le_of_ble_eq_true rfl) ?_
    (rintro v G' J2 Q' ⟨rfl, rfl, rfl, y, m1, m2, m3, m4, m5, m6⟩)
    exact PW.vreturn (pc := 148) dX10_init_148 rfl (by
    rw [b6] at m1
    refine ⟨rfl, xG, 80, 92, hps, tc, ⟨⟨c0, k0, k1, k2, k3, k4, k5, k6, k7, k8, k9, k10⟩, ⟨a1, a2, a3, a6, a7, a8, a9⟩, ⟨a10, a11, Or.inl ⟨rfl, rfl⟩⟩, a4, r0, r1, s4, s8, a5⟩, a3', ⟨by rw [y 1 (by omega)]; exact b1, Nat.zero_le _, fun k k0 k1 => absurd k1 (by show ¬ k < ((0 : Nat) : Int); omega)⟩, ⟨⟨by rw [y 80 (by omega)]; exact b6, by decide, fun k k0 k1 => absurd k1 (by show ¬ k < ((0 : Nat) : Int); omega)⟩, ?_, ?_, ?_⟩, b7.of (fun q _ _ => y q (by omega)), ⟨m1, okF0⟩, ⟨⟨m2, Nat.zero_le _, fun i i0 i1 => absurd i1 (by show ¬ i < ((0 : Nat) : Int); omega)⟩, fun i i0 i1 => absurd i1 (by show ¬ i < ((0 : Nat) : Int); omega)⟩, ⟨⟨m5, Or.inl rfl⟩, m6, Or.inl rfl⟩, ⟨m3, Nat.zero_le _, m4.trans (unsn0 _).symm⟩, b2.congr (fun q _ _ => y q (by omega))⟩
    · rw [y (80 + 1) (by omega), show J (80 + 1) 6 = 4 from b4]; exact (b3.of (fun q _ _ => y q (by omega))).tab
    · rw [y (80 + 1) (by omega), show J (80 + 1) 6 = 4 from b4]; decide
    · rw [y (80 + 1) (by omega), show J (80 + 1) 6 = 4 from b4]; exact UF0)
  · omega
set_option maxRecDepth 100000 in
set_option maxHeartbeats 1000000 in
theorem lp_img1 (d : Nat) {G : List PTy} {J : PIm} {Q : PRm} (h : PreC G J Q) (xG : Gex Γ G 108) (s4 : SetAt G Q 104) (r0 : Q 49 0 = some 104) : PW sc mX10_init (d + 5) (0 + (0 + 0 + 1 + (0 + 1) + 1) + 1) (0 + (0 + 0 + pw_fn 4 + (0 + 6) + pw_fn 5) + pw_fn 7) (fun v Γ' I' R' => v = none ∧ Gex Γ Γ' 112 ∧ CRel Γ' cs0 I' R') 120 [some (.inr (some 0)), some (.inl (0 + 1))] [] G J Q := by
  have hb := h.1.1
  have k3 : Q 0 3 = some 49 := h.1.2.2.2.2.1
  have a4 := h.2.1.2.2.2.1
  have hl := xG.1
  refine PW.iload_n (pc := 120) dX10_init_120 rfl ?_
  refine PW.iconst (pc := 121) dX10_init_121 ?_
  refine PW.icmp_ge (pc := 122) (tgt := 144) dX10_init_122 (by decide) (by first | omega | exact rg_of _) (by first | omega | exact rg_of _) (fun c_122 => ?_) (fun c_122 => ?_)
  · omega
  · refine PW.aload_n (pc := 125) dX10_init_125 rfl ?_
    refine PW.getr (pc := 126) dX10_init_126 fl_X10_30 (by first | assumption | rfl) (by first | assumption | rfl) ?_
    refine PW.iload_n (pc := 129) dX10_init_129 rfl ?_
    refine PW.new' (pc := 130) (b := 108) dX10_init_130 cl_X7 nw_X10_16 kd_X7 (by have w_ := hl; omega) (by omega) (fun G_130 x_130 n_130 => ?_)
    have hb := x_130.2 _ _ hb
    refine PW.dup (pc := 133) dX10_init_133 ?_
    refine PW.invN (μ := mX10_init) (pc := 134) dX10_init_134 mn_X10_18 (c_X7_init _ x_130.1 n_130 (by omega)) rfl rfl (Nat.le_of_ble_eq_true rfl) ?_
    (rintro v G2 J2 Q2 ⟨rfl, x_134, f_134, p_134⟩)
    have a4b := x_134.2 _ _ (x_130.2 _ _ a4)
    have n_134 := x_134.2 _ _ n_130
    have hb := x_134.2 _ _ hb
    refine PW.aast (pc := 137) dX10_init_137 (by first | assumption | rfl) (by first | assumption | rfl) (by omega) (by omega) (by omega) ?_
    skip
    have eR : ∀ q, q < 108 → q ≠ 49 → pw_upr Q2 49 (0 + 1) (some 108) q = Q q := fun q a c => by rw [pw_upr_ne q c, (f_134 q (by omega)).2, pw_zr_ne (by omega)]
    have H2 : PreC G2 J2 (pw_upr Q2 49 (0 + 1) (some 108)) := h.ext (x_130.tr x_134).2 (fun q a c => eR q (by omega) c) (fun q a => by rw [(f_134 q (by omega)).1, pw_zi_ne (by omega)])
    refine PW.iinc (pc := 138) dX10_init_138 rfl (by decide) ?_
    refine PW.goto (pc := 141) (tgt := 120) dX10_init_141 (by decide) ?_
    exact lp_img2 d H2 ((xG.tr x_130).tr x_134) (s4.ext (x_130.tr x_134).2 (fun q a c => eR q (by omega) (by omega))) (p_134.ext (fun _ _ h => h) (fun q a c => pw_upr_ne q (by omega))) (by rw [pw_upr_other (by omega), (f_134 49 (by omega)).2, pw_zr_ne (by omega)]; exact r0) (pw_upr_self _ _ _ _)
set_option maxRecDepth 100000 in
set_option maxHeartbeats 1000000 in
theorem lp_img0 (d : Nat) {G : List PTy} {J : PIm} {Q : PRm} (h : PreC G J Q) (xG : Gex Γ G 104) : PW sc mX10_init (d + 5) (0 + (0 + 0 + 1 + (0 + 1) + 1) + 1 + (0 + 0 + 1 + (0 + 1) + 1) + 1) (0 + (0 + 0 + pw_fn 4 + (0 + 6) + pw_fn 5) + pw_fn 7 + (0 + 0 + pw_fn 4 + (0 + 6) + pw_fn 5) + pw_fn 7) (fun v Γ' I' R' => v = none ∧ Gex Γ Γ' 112 ∧ CRel Γ' cs0 I' R') 120 [some (.inr (some 0)), some (.inl 0)] [] G J Q := by
  have hb := h.1.1
  have k3 : Q 0 3 = some 49 := h.1.2.2.2.2.1
  have a4 := h.2.1.2.2.2.1
  have hl := xG.1
  refine PW.iload_n (pc := 120) dX10_init_120 rfl ?_
  refine PW.iconst (pc := 121) dX10_init_121 ?_
  refine PW.icmp_ge (pc := 122) (tgt := 144) dX10_init_122 (by decide) (by first | omega | exact rg_of _) (by first | omega | exact rg_of _) (fun c_122 => ?_) (fun c_122 => ?_)
  · omega
  · refine PW.aload_n (pc := 125) dX10_init_125 rfl ?_
    refine PW.getr (pc := 126) dX10_init_126 fl_X10_30 (by first | assumption | rfl) (by first | assumption | rfl) ?_
    refine PW.iload_n (pc := 129) dX10_init_129 rfl ?_
    refine PW.new' (pc := 130) (b := 104) dX10_init_130 cl_X7 nw_X10_16 kd_X7 (by have w_ := hl; omega) (by omega) (fun G_130 x_130 n_130 => ?_)
    have hb := x_130.2 _ _ hb
    refine PW.dup (pc := 133) dX10_init_133 ?_
    refine PW.invN (μ := mX10_init) (pc := 134) dX10_init_134 mn_X10_18 (c_X7_init _ x_130.1 n_130 (by omega)) rfl rfl (Nat.le_of_ble_eq_true rfl) ?_
    (rintro v G2 J2 Q2 ⟨rfl, x_134, f_134, p_134⟩)
    have a4b := x_134.2 _ _ (x_130.2 _ _ a4)
    have n_134 := x_134.2 _ _ n_130
    have hb := x_134.2 _ _ hb
    refine PW.aast (pc := 137) dX10_init_137 (by first | assumption | rfl) (by first | assumption | rfl) (by omega) (by omega) (by omega) ?_
    skip
    have eR : ∀ q, q < 104 → q ≠ 49 → pw_upr Q2 49 0 (some 104) q = Q q := fun q a c => by rw [pw_upr_ne q c, (f_134 q (by omega)).2, pw_zr_ne (by omega)]
    have H2 : PreC G2 J2 (pw_upr Q2 49 0 (some 104)) := h.ext (x_130.tr x_134).2 eR (fun q a => by rw [(f_134 q (by omega)).1, pw_zi_ne (by omega)])
    refine PW.iinc (pc := 138) dX10_init_138 rfl (by decide) ?_
    refine PW.goto (pc := 141) (tgt := 120) dX10_init_141 (by decide) ?_
    exact lp_img1 d H2 ((xG.tr x_130).tr x_134) (p_134.ext (fun _ _ h => h) (fun q a c => pw_upr_ne q (by omega))) (pw_upr_self _ _ _ _)
set_option maxRecDepth 100000 in
set_option maxHeartbeats 1000000 in
theorem c_X10_init (d : Nat) (hl : Γ.length = 1) (hb : Γ[0]? = some (.inl 10)) : PC sc mX10_init (d + 5) (0 + (0 + 0 + 1 + (0 + 1) + 1) + 1 + (0 + 0 + 1 + (0 + 1) + 1) + 1 + (0 + 1 + 1 + 1 + (0 + 1) + 1 + (0 + 1 + 1 + 1 + 1 + 1) + 1) + 1 + (0 + 1 + 1 + 1 + (0 + 1) + 1 + (0 + 1 + 1 + 1 + 1 + 1) + 1) + 1 + 0 + 1 + (0 + 0 + 1 + (0 + 1 + 1 + 1 + 1 + 1 + 1) + 1 + (0 + 1 + 1 + 1 + 1 + 1) + 1 + (0 + 1) + 1) + 1 + (0 + 1 + 1 + 1) + 1 + (0 + 1 + 1 + 1 + 1 + 1 + 1) + 1 + 1 + 1 + (4 * 10 + 1) + 1 + (0 + 0 + 1 + (0 + 1) + 1) + 1 + (0 + 1) + 1) (0 + (0 + 0 + pw_fn 4 + (0 + 6) + pw_fn 5) + pw_fn 7 + (0 + 0 + pw_fn 4 + (0 + 6) + pw_fn 5) + pw_fn 7 + (0 + 6 + 6 + 6 + (0 + 6) + pw_fn 5 + (0 + 116 + 116 + 116 + 116 + 116) + pw_fn 8) + pw_fn 9 + (0 + 6 + 6 + 6 + (0 + 6) + pw_fn 5 + (0 + 116 + 116 + 116 + 116 + 116) + pw_fn 8) + pw_fn 9 + 0 + pw_fn 4 + (0 + 0 + 32 + (0 + 6 + 6 + 6 + 4 + 4 + 4) + pw_fn 2 + (0 + 12 + 12 + 12 + 12 + 12) + pw_fn 8 + (0 + 6) + pw_fn 5) + pw_fn 0 + (0 + 116 + 116 + 116) + pw_fn 1 + (0 + 6 + 6 + 6 + 4 + 4 + 4) + pw_fn 2 + 2 + 2 + (14 * 10 + 10) + pw_fn 3 + (0 + 0 + pw_fn 4 + (0 + 6) + pw_fn 5) + pw_fn 7 + (0 + 100) + pw_fn 6) [.inr (some 0)] Γ I R (fun v Γ' I' R' => v = none ∧ Gex Γ Γ' 112 ∧ CRel Γ' cs0 I' R') := by
  refine PC.ofPW (by decide) (Nat.le_of_ble_eq_true rfl) ?_
  refine PW.aload_n (pc := 0) dX10_init_0 rfl ?_
  refine PW.obj (pc := 1) dX10_init_1 ob_X10_3 (Nat.le_of_ble_eq_true rfl) ?_
  refine PW.aload_n (pc := 4) dX10_init_4 rfl ?_
  refine PW.new' (pc := 5) (b := 1) dX10_init_5 cl_X6 nw_X10_9 kd_X6 (by have w_ := hl; omega) (by omega) (fun G_5 x_5 n_5 => ?_)
  have hb := x_5.2 _ _ hb
  refine PW.dup (pc := 8) dX10_init_8 ?_
  refine PW.invN (μ := mX10_init) (pc := 9) dX10_init_9 mn_X10_11 (c_X6_init (b := 1) _ x_5.1 n_5 (by omega) (pw_zi_self _ _)) rfl rfl (Nat.le_of_ble_eq_true rfl) ?_
  (rintro v G9 I9 R9 ⟨rfl, x_9, f_9, p_9, z_9⟩)
  have hb := x_9.2 _ _ hb
  refine PW.putrF (pc := 12) dX10_init_12 fl_X10_12 rfl cl_X10 (by first | assumption | rfl) ?_
  refine PW.aload_n (pc := 15) dX10_init_15 rfl ?_
  refine PW.new' (pc := 16) (b := 3) dX10_init_16 cl_X7 nw_X10_16 kd_X7 (by have w_ := x_9.1; omega) (by omega) (fun G_16 x_16 n_16 => ?_)
  have hb := x_16.2 _ _ hb
  refine PW.dup (pc := 19) dX10_init_19 ?_
  refine PW.invN (μ := mX10_init) (pc := 20) dX10_init_20 mn_X10_18 (c_X7_init (b := 3) _ x_16.1 n_16 (by omega)) rfl rfl (Nat.le_of_ble_eq_true rfl) ?_
  (rintro v G20 I20 R20 ⟨rfl, x_20, f_20, p_20⟩)
  have hb := x_20.2 _ _ hb
  refine PW.putrF (pc := 23) dX10_init_23 fl_X10_19 rfl cl_X10 (by first | assumption | rfl) ?_
  refine PW.aload_n (pc := 26) dX10_init_26 rfl ?_
  refine PW.new' (pc := 27) (b := 7) dX10_init_27 cl_X3 nw_X10_23 kd_X3 (by have w_ := x_20.1; omega) (by omega) (fun G_27 x_27 n_27 => ?_)
  have hb := x_27.2 _ _ hb
  refine PW.dup (pc := 30) dX10_init_30 ?_
  refine PW.invI (μ := mX10_init) (pc := 31) dX10_init_31 mi_X10_25 (c_X3_init (b := 7) _ x_27.1 n_27 (by omega)) rfl rfl (Nat.le_of_ble_eq_true rfl) ?_
  (rintro v G31 I31 R31 ⟨rfl, x_31, f_31, p_31, h_31⟩)
  have hb := x_31.2 _ _ hb
  refine PW.putrF (pc := 34) dX10_init_34 fl_X10_26 rfl cl_X10 (by first | assumption | rfl) ?_
  refine PW.aload_n (pc := 37) dX10_init_37 rfl ?_
  refine PW.iconst (pc := 38) dX10_init_38 ?_
  refine PW.newq' (pc := 39) (N := 2) (b := 49) dX10_init_39 nw_X10_16.1 rfl (by decide) (by have w_ := x_31.1; omega) (by omega) (fun G_39 x_39 n_39 => ?_)
  have hb := x_39.2 _ _ hb
  refine PW.putrF (pc := 42) dX10_init_42 fl_X10_30 rfl cl_X10 (by first | assumption | rfl) ?_
  refine PW.aload_n (pc := 45) dX10_init_45 rfl ?_
  refine PW.iconst (pc := 46) dX10_init_46 ?_
  refine PW.newz' (pc := 47) (N := 2) (b := 50) dX10_init_47 rfl (by decide) (by have w_ := x_39.1; omega) (by omega) (fun G_47 x_47 n_47 => ?_)
  have hb := x_47.2 _ _ hb
  refine PW.putrF (pc := 49) dX10_init_49 fl_X10_34 rfl cl_X10 (by first | assumption | rfl) ?_
  refine PW.aload_n (pc := 52) dX10_init_52 rfl ?_
  refine PW.new' (pc := 53) (b := 51) dX10_init_53 cl_X2 nw_X10_38 kd_X2 (by have w_ := x_47.1; omega) (by omega) (fun G_53 x_53 n_53 => ?_)
  have hb := x_53.2 _ _ hb
  refine PW.dup (pc := 56) dX10_init_56 ?_
  refine PW.invN (μ := mX10_init) (pc := 57) dX10_init_57 mn_X10_40 (c_X2_init (b := 51) _ x_53.1 n_53 (by omega)) rfl rfl (Nat.le_of_ble_eq_true rfl) ?_
  (rintro v G57 I57 R57 ⟨rfl, x_57, f_57, p_57⟩)
  have hb := x_57.2 _ _ hb
  refine PW.putrF (pc := 60) dX10_init_60 fl_X10_41 rfl cl_X10 (by first | assumption | rfl) ?_
  refine PW.aload_n (pc := 63) dX10_init_63 rfl ?_
  refine PW.new' (pc := 64) (b := 58) dX10_init_64 cl_X1 nw_X10_45 kd_X1 (by have w_ := x_57.1; omega) (by omega) (fun G_64 x_64 n_64 => ?_)
  have hb := x_64.2 _ _ hb
  refine PW.dup (pc := 67) dX10_init_67 ?_
  refine PW.invN (μ := mX10_init) (pc := 68) dX10_init_68 mn_X10_47 (c_X1_init (b := 58) _ x_64.1 n_64 (by omega)) rfl rfl (Nat.le_of_ble_eq_true rfl) ?_
  (rintro v G68 I68 R68 ⟨rfl, x_68, f_68, p_68⟩)
  have hb := x_68.2 _ _ hb
  refine PW.putrF (pc := 71) dX10_init_71 fl_X10_48 rfl cl_X10 (by first | assumption | rfl) ?_
  refine PW.aload_n (pc := 74) dX10_init_74 rfl ?_
  refine PW.new' (pc := 75) (b := 62) dX10_init_75 cl_X0 nw_X10_52 kd_X0 (by have w_ := x_68.1; omega) (by omega) (fun G_75 x_75 n_75 => ?_)
  have hb := x_75.2 _ _ hb
  refine PW.dup (pc := 78) dX10_init_78 ?_
  refine PW.invI (μ := mX10_init) (pc := 79) dX10_init_79 mi_X10_54 (c_X0_init (b := 62) _ x_75.1 n_75 (by omega)) rfl rfl (Nat.le_of_ble_eq_true rfl) ?_
  (rintro v G79 I79 R79 ⟨rfl, x_79, f_79, p_79, b_79⟩)
  have hb := x_79.2 _ _ hb
  refine PW.putrF (pc := 82) dX10_init_82 fl_X10_55 rfl cl_X10 (by first | assumption | rfl) ?_
  refine PW.aload_n (pc := 85) dX10_init_85 rfl ?_
  refine PW.new' (pc := 86) (b := 79) dX10_init_86 cl_X4 nw_X10_59 kd_X4 (by have w_ := x_79.1; omega) (by omega) (fun G_86 x_86 n_86 => ?_)
  have hb := x_86.2 _ _ hb
  refine PW.dup (pc := 89) dX10_init_89 ?_
  refine PW.invI (μ := mX10_init) (pc := 90) dX10_init_90 mi_X10_61 (c_X4_init (b := 79) _ x_86.1 n_86) rfl rfl (Nat.le_of_ble_eq_true rfl) ?_
  (rintro v G90 I90 R90 ⟨rfl, x_90, f_90, -, -, -⟩)
  have hb := x_90.2 _ _ hb
  refine PW.putrF (pc := 93) dX10_init_93 fl_X10_62 rfl cl_X10 (by first | assumption | rfl) ?_
  refine PW.aload_n (pc := 96) dX10_init_96 rfl ?_
  refine PW.new' (pc := 97) (b := 80) dX10_init_97 cl_X9 nw_X10_66 kd_X9 (by have w_ := x_90.1; omega) (by omega) (fun G_97 x_97 n_97 => ?_)
  have hb := x_97.2 _ _ hb
  refine PW.dup (pc := 100) dX10_init_100 ?_
  refine PW.invN (μ := mX10_init) (pc := 101) dX10_init_101 mn_X10_68 (c_X9_init (b := 80) _ x_97.1 n_97 (by omega) (pw_zi_self _ _)) rfl rfl (Nat.le_of_ble_eq_true rfl) ?_
  (rintro v G101 I101 R101 ⟨rfl, x_101, f_101, p_101, b_101, -, z6_101, z7_101, z5_101⟩)
  have hb := x_101.2 _ _ hb
  refine PW.putr (pc := 104) dX10_init_104 fl_X10_69 (by first | assumption | rfl) ?_
  refine PW.aload_n (pc := 107) dX10_init_107 rfl ?_
  refine PW.new' (pc := 108) (b := 92) dX10_init_108 cl_X9 nw_X10_66 kd_X9 (by have w_ := x_101.1; omega) (by omega) (fun G_108 x_108 n_108 => ?_)
  have hb := x_108.2 _ _ hb
  refine PW.dup (pc := 111) dX10_init_111 ?_
  refine PW.invN (μ := mX10_init) (pc := 112) dX10_init_112 mn_X10_68 (c_X9_init (b := 92) _ x_108.1 n_108 (by omega) (pw_zi_self _ _)) rfl rfl (Nat.le_of_ble_eq_true rfl) ?_
  (rintro v G112 I112 R112 ⟨rfl, x_112, f_112, p_112, b_112, -⟩)
  have hb := x_112.2 _ _ hb
  refine PW.putr (pc := 115) dX10_init_115 fl_X10_73 (by first | assumption | rfl) ?_
  refine PW.iconst (pc := 118) dX10_init_118 ?_
  refine PW.istore_n (pc := 119) dX10_init_119 (by decide) ?_
  skip
  have y101 := x_108.tr x_112
  have y90 := (x_97.tr x_101).tr y101
  have y79 := (x_86.tr x_90).tr y90
  have y68 := (x_75.tr x_79).tr y79
  have y57 := (x_64.tr x_68).tr y68
  have y47 := (x_53.tr x_57).tr y57
  have y39 := x_47.tr y47
  have y31 := x_39.tr y39
  have y20 := (x_27.tr x_31).tr y31
  have y9 := (x_16.tr x_20).tr y20
  have i101 : ∀ q, q < 92 → I112 q = I101 q := fun q g => by rw [(f_112 q g).1, pw_zi_ne (by omega)]
  have i90 : ∀ q, q < 80 → I112 q = I90 q := fun q g => by rw [i101 q (by omega), (f_101 q g).1, pw_zi_ne (by omega)]
  have i79 : ∀ q, q < 79 → I112 q = I79 q := fun q g => by rw [i90 q (by omega), (f_90 q g).1, pw_zi_ne (by omega)]
  have i68 : ∀ q, q < 62 → I112 q = I68 q := fun q g => by rw [i79 q (by omega), (f_79 q g).1, pw_zi_ne (by omega)]
  have i57 : ∀ q, q < 58 → I112 q = I57 q := fun q g => by rw [i68 q (by omega), (f_68 q g).1, pw_zi_ne (by omega)]
  have i31 : ∀ q, q < 49 → I112 q = I31 q := fun q g => by rw [i57 q (by omega), (f_57 q (by omega)).1, pw_zi_ne (by omega), pw_zi_ne (by omega), pw_zi_ne (by omega)]
  have i20 : ∀ q, q < 7 → I112 q = I20 q := fun q g => by rw [i31 q (by omega), (f_31 q g).1, pw_zi_ne (by omega)]
  have i9 : ∀ q, q < 3 → I112 q = I9 q := fun q g => by rw [i20 q (by omega), (f_20 q g).1, pw_zi_ne (by omega)]
  have r112 : ∀ q, q ≠ 0 → pw_upr R112 0 10 (some 92) q = R112 q := fun q g => pw_upr_ne q g
  have r101 : ∀ q, q ≠ 0 → q < 92 → pw_upr R112 0 10 (some 92) q = R101 q := fun q g h => by rw [r112 q g, (f_112 q h).2, pw_zr_ne (by omega), pw_upr_ne q g]
  have r90 : ∀ q, q ≠ 0 → q < 80 → pw_upr R112 0 10 (some 92) q = R90 q := fun q g h => by rw [r101 q g (by omega), (f_101 q h).2, pw_zr_ne (by omega), pw_upr_ne q g]
  have r79 : ∀ q, q ≠ 0 → q < 79 → pw_upr R112 0 10 (some 92) q = R79 q := fun q g h => by rw [r90 q g (by omega), (f_90 q h).2, pw_zr_ne (by omega), pw_upr_ne q g]
  have r68 : ∀ q, q ≠ 0 → q < 62 → pw_upr R112 0 10 (some 92) q = R68 q := fun q g h => by rw [r79 q g (by omega), (f_79 q h).2, pw_zr_ne (by omega), pw_upr_ne q g]
  have r57 : ∀ q, q ≠ 0 → q < 58 → pw_upr R112 0 10 (some 92) q = R57 q := fun q g h => by rw [r68 q g (by omega), (f_68 q h).2, pw_zr_ne (by omega), pw_upr_ne q g]
  have r31 : ∀ q, q ≠ 0 → q < 49 → pw_upr R112 0 10 (some 92) q = R31 q := fun q g h => by rw [r57 q g (by omega), (f_57 q (by omega)).2, pw_zr_ne (by omega), pw_upr_ne q g, pw_zr_ne (by omega), pw_upr_ne q g, pw_zr_ne (by omega), pw_upr_ne q g]
  have r20 : ∀ q, q ≠ 0 → q < 7 → pw_upr R112 0 10 (some 92) q = R20 q := fun q g h => by rw [r31 q g (by omega), (f_31 q h).2, pw_zr_ne (by omega), pw_upr_ne q g]
  have r9 : ∀ q, q ≠ 0 → q < 3 → pw_upr R112 0 10 (some 92) q = R9 q := fun q g h => by rw [r20 q g (by omega), (f_20 q h).2, pw_zr_ne (by omega), pw_upr_ne q g]
  have a112 : ∀ j : Int, j ≠ 10 → pw_upr R112 0 10 (some 92) 0 j = pw_upr R101 0 9 (some 80) 0 j := fun j g => by rw [pw_upr_other (by omega), (f_112 0 (by omega)).2, pw_zr_ne (by omega)]
  have a101 : ∀ j : Int, j < 9 → pw_upr R112 0 10 (some 92) 0 j = pw_upr R90 0 8 (some 79) 0 j := fun j g => by rw [a112 j (by omega), pw_upr_other (by omega), (f_101 0 (by omega)).2, pw_zr_ne (by omega)]
  have a90 : ∀ j : Int, j < 8 → pw_upr R112 0 10 (some 92) 0 j = pw_upr R79 0 7 (some 62) 0 j := fun j g => by rw [a101 j (by omega), pw_upr_other (by omega), (f_90 0 (by omega)).2, pw_zr_ne (by omega)]
  have a79 : ∀ j : Int, j < 7 → pw_upr R112 0 10 (some 92) 0 j = pw_upr R68 0 6 (some 58) 0 j := fun j g => by rw [a90 j (by omega), pw_upr_other (by omega), (f_79 0 (by omega)).2, pw_zr_ne (by omega)]
  have a68 : ∀ j : Int, j < 6 → pw_upr R112 0 10 (some 92) 0 j = pw_upr R57 0 5 (some 51) 0 j := fun j g => by rw [a79 j (by omega), pw_upr_other (by omega), (f_68 0 (by omega)).2, pw_zr_ne (by omega)]
  have a57 : ∀ j : Int, j < 5 → pw_upr R112 0 10 (some 92) 0 j = pw_upr (pw_zr (pw_upr (pw_zr (pw_upr R31 0 2 (some 7)) 49) 0 3 (some 49)) 50) 0 4 (some 50) 0 j := fun j g => by rw [a68 j (by omega), pw_upr_other (by omega), (f_57 0 (by omega)).2, pw_zr_ne (by omega)]
  have a47 : ∀ j : Int, j < 4 → pw_upr R112 0 10 (some 92) 0 j = pw_upr (pw_zr (pw_upr R31 0 2 (some 7)) 49) 0 3 (some 49) 0 j := fun j g => by rw [a57 j (by omega), pw_upr_other (by omega), pw_zr_ne (by omega)]
  have a39 : ∀ j : Int, j < 3 → pw_upr R112 0 10 (some 92) 0 j = pw_upr R31 0 2 (some 7) 0 j := fun j g => by rw [a47 j (by omega), pw_upr_other (by omega), pw_zr_ne (by omega)]
  have a31 : ∀ j : Int, j < 2 → pw_upr R112 0 10 (some 92) 0 j = pw_upr R20 0 1 (some 3) 0 j := fun j g => by rw [a39 j (by omega), pw_upr_other (by omega), (f_31 0 (by omega)).2, pw_zr_ne (by omega)]
  have a20 : ∀ j : Int, j < 1 → pw_upr R112 0 10 (some 92) 0 j = pw_upr R9 0 0 (some 1) 0 j := fun j g => by rw [a31 j (by omega), pw_upr_other (by omega), (f_20 0 (by omega)).2, pw_zr_ne (by omega)]
  have k0 : pw_upr R112 0 10 (some 92) 0 0 = some 1 := by rw [a20 0 (by omega), pw_upr_self]
  have k1 : pw_upr R112 0 10 (some 92) 0 1 = some 3 := by rw [a31 1 (by omega), pw_upr_self]
  have k2 : pw_upr R112 0 10 (some 92) 0 2 = some 7 := by rw [a39 2 (by omega), pw_upr_self]
  have k3 : pw_upr R112 0 10 (some 92) 0 3 = some 49 := by rw [a47 3 (by omega), pw_upr_self]
  have k4 : pw_upr R112 0 10 (some 92) 0 4 = some 50 := by rw [a57 4 (by omega), pw_upr_self]
  have k5 : pw_upr R112 0 10 (some 92) 0 5 = some 51 := by rw [a68 5 (by omega), pw_upr_self]
  have k6 : pw_upr R112 0 10 (some 92) 0 6 = some 58 := by rw [a79 6 (by omega), pw_upr_self]
  have k7 : pw_upr R112 0 10 (some 92) 0 7 = some 62 := by rw [a90 7 (by omega), pw_upr_self]
  have k8 : pw_upr R112 0 10 (some 92) 0 8 = some 79 := by rw [a101 8 (by omega), pw_upr_self]
  have k9 : pw_upr R112 0 10 (some 92) 0 9 = some 80 := by rw [a112 9 (by omega), pw_upr_self]
  have k10 : pw_upr R112 0 10 (some 92) 0 10 = some 92 := pw_upr_self _ _ _ _
  have e79 : G112[79]? = some (.inl 4) := y90.2 _ _ (x_90.2 _ _ n_86)
  refine lp_img0 d (Q := pw_upr R112 0 10 (some 92)) ⟨⟨hb, k0, k1, k2, k3, k4, k5, k6, k7, k8, k9, k10⟩, ⟨p_9.ext y9.2 (r9 1 (by omega) (by omega)), p_20.ext y20.2 (fun q g1 g2 => r20 q (by omega) (by omega)), ⟨p_31.ext y31.2 (r31 7 (by omega) (by omega)), HPos.ext (ps := hps) h_31 y31.2 (fun q g1 g2 => r31 q (by omega) (by omega))⟩, y39.2 _ _ n_39, y47.2 _ _ n_47, p_57.ext y57.2 (r57 51 (by omega) (by omega)), p_68.ext y68.2 (r68 58 (by omega) (by omega)), p_79.ext y79.2 (fun q g1 g2 => r79 q (by omega) (by omega)), e79, p_101.ext y101.2 (fun q g1 g2 => r101 q (by omega) (by omega)), p_112.ext (fun _ _ h => h) (fun q g1 g2 => r112 q (by omega))⟩, by rw [i9 1 (by omega)]; exact z_9, b_79.congr (fun q g1 g2 => i79 q (by omega)), ⟨b_101.of (fun q g1 g2 => i101 q (by omega)), by rw [i101 81 (by omega)]; exact z6_101, by rw [i101 87 (by omega)]; exact z7_101, by rw [i101 80 (by omega)]; exact z5_101⟩, b_112⟩ (((x_5.tr x_9).tr y9))
end INIT3
