section INIT2
variable {sc : PSc} {Γ : List PTy} {I : PIm} {R : PRm}
set_option maxRecDepth 100000 in
set_option maxHeartbeats 1000000 in
theorem c_X8_init (d : Nat) {b n : Nat} (hl : Γ.length = b + 1) (hb : Γ[b]? = some (.inl 8)) (hs : b < 99000) (hn : 4 ≤ n ∧ n ≤ 200) : PC sc mX8_init (d + 1) (0 + 1 + 1 + 1 + 1 + 1) (0 + n + n + n + n + n) [.inr (some b), .inl (n : Int)] Γ I R (NP Γ I R b 6 (fun Γ' I' R' => TermsAt Γ' R' b n ∧ Base I' b ∧ I' b 5 = 4 ∧ I' b 6 = 4)) := by
  have loop : ∀ (G : List PTy) (R1 : PRm) (xG : Gex Γ G (b + 6)) (fR : ∀ q, q < b → R1 q = R q) (T : TermsAt G R1 b n) (N k : Nat) (J : PIm), 4 - k = N → k ≤ 4 → (∀ q, q < b → J q = I q) → (∀ i : Int, 0 ≤ i → i < k → J (b + 1) i = i ∧ J (b + 2) i = i ∧ J (b + 3) i = i ∧ J (b + 5) i = 1) → (∀ z, J (b + 4) z = 0) → PW sc mX8_init (d + 1) 0 0 (NP Γ I R b 6 (fun Γ' I' R' => TermsAt Γ' R' b n ∧ Base I' b ∧ I' b 5 = 4 ∧ I' b 6 = 4)) 47 [some (.inr (some b)), some (.inl (n : Int)), some (.inl (n : Int)), some (.inl (k : Int))] [] G J R1 := by
    intro G R1 xG fR T N
    obtain ⟨t0, t1, t2, t3, t4, t5, t6, t7, t8, t9, t10, t11⟩ := id T
    induction N using Nat.strongRecOn with
    | _ N ih =>
      intro k J hN hk fr rws z4
      by_cases hl4 : k < 4
      · have y : ∀ q z, ¬ ((q = b + 1 ∨ q = b + 2 ∨ q = b + 3 ∨ q = b + 5) ∧ z = (k : Int)) → pw_up (pw_up (pw_up (pw_up J (b + 1) k k) (b + 2) k k) (b + 3) k k) (b + 5) k 1 q z = J q z := fun q z g => by rw [pw_up_other (by omega), pw_up_other (by omega), pw_up_other (by omega), pw_up_other (by omega)]
        have y1 : pw_up (pw_up (pw_up (pw_up J (b + 1) k k) (b + 2) k k) (b + 3) k k) (b + 5) k 1 (b + 1) k = k := by rw [pw_up_other (by omega), pw_up_other (by omega), pw_up_other (by omega), pw_up_self]
        have y2 : pw_up (pw_up (pw_up (pw_up J (b + 1) k k) (b + 2) k k) (b + 3) k k) (b + 5) k 1 (b + 2) k = k := by rw [pw_up_other (by omega), pw_up_other (by omega), pw_up_self]
        have y3 : pw_up (pw_up (pw_up (pw_up J (b + 1) k k) (b + 2) k k) (b + 3) k k) (b + 5) k 1 (b + 3) k = k := by rw [pw_up_other (by omega), pw_up_self]
        have y5 : pw_up (pw_up (pw_up (pw_up J (b + 1) k k) (b + 2) k k) (b + 3) k k) (b + 5) k 1 (b + 5) k = 1 := pw_up_self _ _ _ _
        have nx := ih (4 - (k + 1)) (by omega) (k + 1) (pw_up (pw_up (pw_up (pw_up J (b + 1) k k) (b + 2) k k) (b + 3) k k) (b + 5) k 1) rfl (by omega) (fun q g => by rw [← fr q g]; funext z; exact y q z (by omega)) (fun i i0 i1 => by
          by_cases q : i = (k : Int)
          · subst q; rw [y1, y2, y3, y5]; exact ⟨rfl, rfl, rfl, rfl⟩
          · rw [y _ _ (by omega), y _ _ (by omega), y _ _ (by omega), y _ _ (by omega)]; exact rws i i0 (by omega)) (fun z => by rw [y _ _ (by omega)]; exact z4 z)
        refine PW.iload_n (pc := 47) dX8_init_47 rfl ?_
        refine PW.iconst (pc := 48) dX8_init_48 ?_
        refine PW.icmp_ge (pc := 49) (tgt := 86) dX8_init_49 (by decide) (by first | omega | exact rg_of _) (by first | omega | exact rg_of _) (fun c_49 => ?_) (fun c_49 => ?_)
        · omega
        · refine PW.aload_n (pc := 52) dX8_init_52 rfl ?_
          refine PW.getr (pc := 53) dX8_init_53 fl_X8_15 (by first | assumption | rfl) (by first | assumption | rfl) ?_
          refine PW.iload_n (pc := 56) dX8_init_56 rfl ?_
          refine PW.iload_n (pc := 57) dX8_init_57 rfl ?_
          refine PW.iast (pc := 58) dX8_init_58 (by first | assumption | rfl) (by omega) (by omega) (by omega) ?_
          refine PW.aload_n (pc := 59) dX8_init_59 rfl ?_
          refine PW.getr (pc := 60) dX8_init_60 fl_X8_21 (by first | assumption | rfl) (by first | assumption | rfl) ?_
          refine PW.iload_n (pc := 63) dX8_init_63 rfl ?_
          refine PW.iload_n (pc := 64) dX8_init_64 rfl ?_
          refine PW.iast (pc := 65) dX8_init_65 (by first | assumption | rfl) (by omega) (by omega) (by omega) ?_
          refine PW.aload_n (pc := 66) dX8_init_66 rfl ?_
          refine PW.getr (pc := 67) dX8_init_67 fl_X8_24 (by first | assumption | rfl) (by first | assumption | rfl) ?_
          refine PW.iload_n (pc := 70) dX8_init_70 rfl ?_
          refine PW.iload_n (pc := 71) dX8_init_71 rfl ?_
          refine PW.iast (pc := 72) dX8_init_72 (by first | assumption | rfl) (by omega) (by omega) (by omega) ?_
          refine PW.aload_n (pc := 73) dX8_init_73 rfl ?_
          refine PW.getr (pc := 74) dX8_init_74 fl_X8_30 (by first | assumption | rfl) (by first | assumption | rfl) ?_
          refine PW.iload_n (pc := 77) dX8_init_77 rfl ?_
          refine PW.iconst (pc := 78) dX8_init_78 ?_
          refine PW.iast (pc := 79) dX8_init_79 (by first | assumption | rfl) (by omega) (by omega) (by omega) ?_
          refine PW.iinc (pc := 80) dX8_init_80 rfl (by decide) ?_
          refine PW.goto (pc := 83) (tgt := 47) dX8_init_83 (by decide) ?_
          exact nx
      · obtain rfl : k = 4 := by omega
        refine PW.iload_n (pc := 47) dX8_init_47 rfl ?_
        refine PW.iconst (pc := 48) dX8_init_48 ?_
        refine PW.icmp_ge (pc := 49) (tgt := 86) dX8_init_49 (by decide) (by first | omega | exact rg_of _) (by first | omega | exact rg_of _) (fun c_49 => ?_) (fun c_49 => ?_)
        · refine PW.aload_n (pc := 86) dX8_init_86 rfl ?_
          refine PW.invV0x (pc := 87) dX8_init_87 mv_X8_33 (c_X8_forgetAll _ t0) (by first | assumption | rfl) rfl rfl (Nat.le_of_ble_eq_true rfl) ?_
          exact PW.vreturn (pc := 90) dX8_init_90 rfl (by
          have y : ∀ q, q ≠ b → pw_up (pw_up J b 5 4) b 6 4 q = J q := fun q g => by rw [pw_up_ne q g, pw_up_ne q g]
          refine ⟨rfl, xG, fun q g => ⟨by rw [y q (by omega), fr q g], fR q g⟩, T, fun i i0 i1 => ?_, by rw [pw_up_other (by omega), pw_up_self], pw_up_self _ _ _ _⟩
          obtain ⟨r1, r2, r3, r5⟩ := rws i i0 i1
          unfold TabE
          rw [y _ (by omega), y _ (by omega), y _ (by omega), y _ (by omega), y _ (by omega), r1, r2, r3, r5, z4]
          exact ⟨fun _ => ⟨rfl, rfl, rfl, rfl⟩, fun q => by omega, rfl, rfl, i0⟩)
        · omega
  refine PC.ofPW (by decide) (Nat.le_of_ble_eq_true rfl) ?_
  refine PW.aload_n (pc := 0) dX8_init_0 rfl ?_
  refine PW.obj (pc := 1) dX8_init_1 ob_X8_3 (Nat.le_of_ble_eq_true rfl) ?_
  refine PW.iload_n (pc := 4) dX8_init_4 rfl ?_
  refine PW.iconst (pc := 5) dX8_init_5 ?_
  refine PW.mmax (pc := 6) dX8_init_6 mm_X8_9 (by first | omega | exact rg_of _) (by first | omega | exact rg_of _) (Nat.le_of_ble_eq_true rfl) ?_
  rw [show max (n : Int) 4 = (n : Int) by omega]
  refine PW.istore_n (pc := 9) dX8_init_9 (by decide) ?_
  refine PW.aload_n (pc := 10) dX8_init_10 rfl ?_
  refine PW.iload_n (pc := 11) dX8_init_11 rfl ?_
  refine PW.newi' (pc := 12) (N := n) (b := b + 1) dX8_init_12 rfl (by omega) (by have w_ := hl; omega) (by omega) (fun G_12 x_12 n_12 => ?_)
  have hb := x_12.2 _ _ hb
  refine PW.putrF (pc := 14) dX8_init_14 fl_X8_15 rfl cl_X8 (by first | assumption | rfl) ?_
  refine PW.aload_n (pc := 17) dX8_init_17 rfl ?_
  refine PW.iload_n (pc := 18) dX8_init_18 rfl ?_
  refine PW.newi' (pc := 19) (N := n) (b := b + 2) dX8_init_19 rfl (by omega) (by have w_ := x_12.1; omega) (by omega) (fun G_19 x_19 n_19 => ?_)
  have hb := x_19.2 _ _ hb
  refine PW.putrF (pc := 21) dX8_init_21 fl_X8_21 rfl cl_X8 (by first | assumption | rfl) ?_
  refine PW.aload_n (pc := 24) dX8_init_24 rfl ?_
  refine PW.iload_n (pc := 25) dX8_init_25 rfl ?_
  refine PW.newi' (pc := 26) (N := n) (b := b + 3) dX8_init_26 rfl (by omega) (by have w_ := x_19.1; omega) (by omega) (fun G_26 x_26 n_26 => ?_)
  have hb := x_26.2 _ _ hb
  refine PW.putrF (pc := 28) dX8_init_28 fl_X8_24 rfl cl_X8 (by first | assumption | rfl) ?_
  refine PW.aload_n (pc := 31) dX8_init_31 rfl ?_
  refine PW.iload_n (pc := 32) dX8_init_32 rfl ?_
  refine PW.newi' (pc := 33) (N := n) (b := b + 4) dX8_init_33 rfl (by omega) (by have w_ := x_26.1; omega) (by omega) (fun G_33 x_33 n_33 => ?_)
  have hb := x_33.2 _ _ hb
  refine PW.putrF (pc := 35) dX8_init_35 fl_X8_27 rfl cl_X8 (by first | assumption | rfl) ?_
  refine PW.aload_n (pc := 38) dX8_init_38 rfl ?_
  refine PW.iload_n (pc := 39) dX8_init_39 rfl ?_
  refine PW.newi' (pc := 40) (N := n) (b := b + 5) dX8_init_40 rfl (by omega) (by have w_ := x_33.1; omega) (by omega) (fun G_40 x_40 n_40 => ?_)
  have hb := x_40.2 _ _ hb
  refine PW.putrF (pc := 42) dX8_init_42 fl_X8_30 rfl cl_X8 (by first | assumption | rfl) ?_
  refine PW.iconst (pc := 45) dX8_init_45 ?_
  refine PW.istore_n (pc := 46) dX8_init_46 (by decide) ?_
  refine loop _ _ ((((x_12.tr x_19).tr x_26).tr x_33).tr x_40) (fun q g => ?_) ⟨hb, ?_, ?_, ?_, ?_, pw_upr_self _ _ _ _, x_40.2 _ _ (x_33.2 _ _ (x_26.2 _ _ (x_19.2 _ _ n_12))), x_40.2 _ _ (x_33.2 _ _ (x_26.2 _ _ n_19)), x_40.2 _ _ (x_33.2 _ _ n_26), x_40.2 _ _ n_33, n_40, hn.2⟩ 4 0 _ rfl (by omega) (fun q g => ?_) (fun i i0 i1 => by omega) (fun z => ?_)
  · rw [pw_upr_ne q (by omega), pw_zr_ne (by omega), pw_upr_ne q (by omega), pw_zr_ne (by omega), pw_upr_ne q (by omega), pw_zr_ne (by omega), pw_upr_ne q (by omega), pw_zr_ne (by omega), pw_upr_ne q (by omega), pw_zr_ne (by omega)]
  · rw [pw_upr_other (by omega), pw_zr_ne (by omega), pw_upr_other (by omega), pw_zr_ne (by omega), pw_upr_other (by omega), pw_zr_ne (by omega), pw_upr_other (by omega), pw_zr_ne (by omega), pw_upr_self]
  · rw [pw_upr_other (by omega), pw_zr_ne (by omega), pw_upr_other (by omega), pw_zr_ne (by omega), pw_upr_other (by omega), pw_zr_ne (by omega), pw_upr_self]
  · rw [pw_upr_other (by omega), pw_zr_ne (by omega), pw_upr_other (by omega), pw_zr_ne (by omega), pw_upr_self]
  · rw [pw_upr_other (by omega), pw_zr_ne (by omega), pw_upr_self]
  · rw [pw_zi_ne (by omega), pw_zi_ne (by omega), pw_zi_ne (by omega), pw_zi_ne (by omega), pw_zi_ne (by omega)]
  · rw [pw_zi_ne (by omega), pw_zi_self]
set_option maxRecDepth 100000 in
set_option maxHeartbeats 1000000 in
theorem c_X9_init (d : Nat) {b : Nat} (hl : Γ.length = b + 1) (hb : Γ[b]? = some (.inl 9)) (hs : b < 98000) (hz : I b 5 = 0) : PC sc mX9_init (d + 2) (0 + 1 + 1 + 1 + (0 + 1) + 1 + (0 + 1 + 1 + 1 + 1 + 1) + 1) (0 + 6 + 6 + 6 + (0 + 6) + pw_fn 5 + (0 + 116 + 116 + 116 + 116 + 116) + pw_fn 8) [.inr (some b)] Γ I R (NP Γ I R b 12 (fun Γ' I' R' => ToldAt Γ' R' b ∧ Base I' (b + 1) ∧ I' (b + 1) 5 = 4 ∧ I' (b + 1) 6 = 4 ∧ I' (b + 7) 1 = 0 ∧ I' b 5 = 0)) := by
  refine PC.ofPW (by decide) (Nat.le_of_ble_eq_true rfl) ?_
  refine PW.aload_n (pc := 0) dX9_init_0 rfl ?_
  refine PW.obj (pc := 1) dX9_init_1 ob_X9_3 (Nat.le_of_ble_eq_true rfl) ?_
  refine PW.aload_n (pc := 4) dX9_init_4 rfl ?_
  refine PW.new' (pc := 5) (b := b + 1) dX9_init_5 cl_X8 nw_X9_9 kd_X8 (by have w_ := hl; omega) (by omega) (fun G_5 x_5 n_5 => ?_)
  have hb := x_5.2 _ _ hb
  refine PW.dup (pc := 8) dX9_init_8 ?_
  refine PW.bipush (pc := 9) dX9_init_9 (by decide) ?_
  refine PW.invI (μ := mX9_init) (pc := 11) dX9_init_11 mi_X9_11 (c_X8_init (n := 116) _ x_5.1 n_5 (by omega) (by omega)) rfl rfl (Nat.le_of_ble_eq_true rfl) ?_
  (rintro v G11 I11 R11 ⟨rfl, x_11, f_11, p_11, B_11, z5_11, z6_11⟩)
  have hb := x_11.2 _ _ hb
  refine PW.putrF (pc := 14) dX9_init_14 fl_X9_14 rfl cl_X9 (by first | assumption | rfl) ?_
  refine PW.aload_n (pc := 17) dX9_init_17 rfl ?_
  refine PW.new' (pc := 18) (b := b + 7) dX9_init_18 cl_X5 nw_X9_20 kd_X5 (by have w_ := x_11.1; omega) (by omega) (fun G_18 x_18 n_18 => ?_)
  have hb := x_18.2 _ _ hb
  refine PW.dup (pc := 21) dX9_init_21 ?_
  refine PW.invN (μ := mX9_init) (pc := 22) dX9_init_22 mn_X9_22 (c_X5_init _ x_18.1 n_18 (by omega) (pw_zi_self _ _)) rfl rfl (Nat.le_of_ble_eq_true rfl) ?_
  (rintro v G22 I22 R22 ⟨rfl, x_22, f_22, p_22, z_22⟩)
  have hb := x_22.2 _ _ hb
  refine PW.putrF (pc := 25) dX9_init_25 fl_X9_23 rfl cl_X9 (by first | assumption | rfl) ?_
  refine PW.aload_n (pc := 28) dX9_init_28 rfl ?_
  refine PW.bipush (pc := 29) dX9_init_29 (by decide) ?_
  refine PW.newi' (pc := 31) (N := 6) (b := b + 9) dX9_init_31 rfl (by decide) (by have w_ := x_22.1; omega) (by omega) (fun G_31 x_31 n_31 => ?_)
  have hb := x_31.2 _ _ hb
  refine PW.putrF (pc := 33) dX9_init_33 fl_X9_27 rfl cl_X9 (by first | assumption | rfl) ?_
  refine PW.aload_n (pc := 36) dX9_init_36 rfl ?_
  refine PW.bipush (pc := 37) dX9_init_37 (by decide) ?_
  refine PW.newi' (pc := 39) (N := 6) (b := b + 10) dX9_init_39 rfl (by decide) (by have w_ := x_31.1; omega) (by omega) (fun G_39 x_39 n_39 => ?_)
  have hb := x_39.2 _ _ hb
  refine PW.putrF (pc := 41) dX9_init_41 fl_X9_31 rfl cl_X9 (by first | assumption | rfl) ?_
  refine PW.aload_n (pc := 44) dX9_init_44 rfl ?_
  refine PW.bipush (pc := 45) dX9_init_45 (by decide) ?_
  refine PW.newz' (pc := 47) (N := 6) (b := b + 11) dX9_init_47 rfl (by decide) (by have w_ := x_39.1; omega) (by omega) (fun G_47 x_47 n_47 => ?_)
  have hb := x_47.2 _ _ hb
  refine PW.putrF (pc := 49) dX9_init_49 fl_X9_34 rfl cl_X9 (by first | assumption | rfl) ?_
  exact PW.vreturn (pc := 52) dX9_init_52 rfl (by
  have xx := ((x_31.tr x_39).tr x_47)
  have yy := ((x_18.tr x_22).tr xx)
  have eI : ∀ q, q < b + 9 → pw_zi (pw_zi (pw_zi I22 (b + 9)) (b + 10)) (b + 11) q = I22 q := fun q g => by rw [pw_zi_ne (by omega), pw_zi_ne (by omega), pw_zi_ne (by omega)]
  have e11 : ∀ q, q < b + 7 → I22 q = I11 q := fun q g => by rw [(f_22 q g).1, pw_zi_ne (by omega)]
  refine ⟨rfl, ((x_5.tr x_11).tr yy), fun q g => ⟨?_, ?_⟩, ⟨hb, ?_, ?_, ?_, ?_, pw_upr_self _ _ _ _, x_47.2 _ _ (x_39.2 _ _ n_31), x_47.2 _ _ n_39, n_47, p_11.ext yy.2 ?_, p_22.ext xx.2 ?_⟩, B_11.of (fun q g1 g2 => by rw [eI q (by omega), e11 q (by omega)]), by rw [eI _ (by omega), e11 _ (by omega)]; exact z5_11, by rw [eI _ (by omega), e11 _ (by omega)]; exact z6_11, by rw [eI _ (by omega)]; exact z_22, ?_⟩
  · rw [eI q (by omega), e11 q (by omega), (f_11 q (by omega)).1, pw_zi_ne (by omega)]
  · rw [pw_upr_ne q (by omega), pw_zr_ne (by omega), pw_upr_ne q (by omega), pw_zr_ne (by omega), pw_upr_ne q (by omega), pw_zr_ne (by omega), pw_upr_ne q (by omega), (f_22 q (by omega)).2, pw_zr_ne (by omega), pw_upr_ne q (by omega), (f_11 q (by omega)).2, pw_zr_ne (by omega)]
  · rw [pw_upr_other (by omega), pw_zr_ne (by omega), pw_upr_other (by omega), pw_zr_ne (by omega), pw_upr_other (by omega), pw_zr_ne (by omega), pw_upr_other (by omega), (f_22 b (by omega)).2, pw_zr_ne (by omega), pw_upr_self]
  · rw [pw_upr_other (by omega), pw_zr_ne (by omega), pw_upr_other (by omega), pw_zr_ne (by omega), pw_upr_other (by omega), pw_zr_ne (by omega), pw_upr_self]
  · rw [pw_upr_other (by omega), pw_zr_ne (by omega), pw_upr_other (by omega), pw_zr_ne (by omega), pw_upr_self]
  · rw [pw_upr_other (by omega), pw_zr_ne (by omega), pw_upr_self]
  · rw [pw_upr_ne _ (by omega), pw_zr_ne (by omega), pw_upr_ne _ (by omega), pw_zr_ne (by omega), pw_upr_ne _ (by omega), pw_zr_ne (by omega), pw_upr_ne _ (by omega), (f_22 _ (by omega)).2, pw_zr_ne (by omega), pw_upr_ne _ (by omega)]
  · rw [pw_upr_ne _ (by omega), pw_zr_ne (by omega), pw_upr_ne _ (by omega), pw_zr_ne (by omega), pw_upr_ne _ (by omega), pw_zr_ne (by omega), pw_upr_ne _ (by omega)]
  · rw [eI b (by omega), e11 b (by omega), (f_11 b (by omega)).1, pw_zi_ne (by omega)]; exact hz)
set_option maxRecDepth 100000 in
set_option maxHeartbeats 1000000 in
theorem c_X0_init (d : Nat) {b : Nat} (hl : Γ.length = b + 1) (hb : Γ[b]? = some (.inl 0)) (hs : b < 98000) : PC sc mX0_init (d + 3) (0 + 0 + 1 + (0 + 1 + 1 + 1 + 1 + 1 + 1) + 1 + (0 + 1 + 1 + 1 + 1 + 1) + 1 + (0 + 1) + 1) (0 + 0 + 32 + (0 + 6 + 6 + 6 + 4 + 4 + 4) + pw_fn 2 + (0 + 12 + 12 + 12 + 12 + 12) + pw_fn 8 + (0 + 6) + pw_fn 5) [.inr (some b)] Γ I R (NP Γ I R b 17 (fun Γ' I' R' => BrkAt Γ' R' b ∧ BrkIs I' b)) := by
  refine PC.ofPW (by decide) (Nat.le_of_ble_eq_true rfl) ?_
  refine PW.aload_n (pc := 0) dX0_init_0 rfl ?_
  refine PW.obj (pc := 1) dX0_init_1 ob_X0_3 (Nat.le_of_ble_eq_true rfl) ?_
  refine PW.aload_n (pc := 4) dX0_init_4 rfl ?_
  refine PW.new' (pc := 5) (b := b + 1) dX0_init_5 cl_X5 nw_X0_9 kd_X5 (by have w_ := hl; omega) (by omega) (fun G_5 x_5 n_5 => ?_)
  have hb := x_5.2 _ _ hb
  refine PW.dup (pc := 8) dX0_init_8 ?_
  refine PW.invN (μ := mX0_init) (pc := 9) dX0_init_9 mn_X0_11 (c_X5_init _ x_5.1 n_5 (by omega) (pw_zi_self _ _)) rfl rfl (Nat.le_of_ble_eq_true rfl) ?_
  (rintro v G9 I9 R9 ⟨rfl, x_9, f_9, p_9, z_9⟩)
  have hb := x_9.2 _ _ hb
  refine PW.putrF (pc := 12) dX0_init_12 fl_X0_12 rfl cl_X0 (by first | assumption | rfl) ?_
  refine PW.aload_n (pc := 15) dX0_init_15 rfl ?_
  refine PW.new' (pc := 16) (b := b + 3) dX0_init_16 cl_X8 nw_X0_18 kd_X8 (by have w_ := x_9.1; omega) (by omega) (fun G_16 x_16 n_16 => ?_)
  have hb := x_16.2 _ _ hb
  refine PW.dup (pc := 19) dX0_init_19 ?_
  refine PW.bipush (pc := 20) dX0_init_20 (by decide) ?_
  refine PW.invI (μ := mX0_init) (pc := 22) dX0_init_22 mi_X0_20 (c_X8_init (n := 12) _ x_16.1 n_16 (by omega) (by omega)) rfl rfl (Nat.le_of_ble_eq_true rfl) ?_
  (rintro v G22 I22 R22 ⟨rfl, x_22, f_22, p_22, B_22, z5_22, z6_22⟩)
  have hb := x_22.2 _ _ hb
  refine PW.putrF (pc := 25) dX0_init_25 fl_X0_23 rfl cl_X0 (by first | assumption | rfl) ?_
  refine PW.aload_n (pc := 28) dX0_init_28 rfl ?_
  refine PW.new' (pc := 29) (b := b + 9) dX0_init_29 cl_X2 nw_X0_27 kd_X2 (by have w_ := x_22.1; omega) (by omega) (fun G_29 x_29 n_29 => ?_)
  have hb := x_29.2 _ _ hb
  refine PW.dup (pc := 32) dX0_init_32 ?_
  refine PW.invN (μ := mX0_init) (pc := 33) dX0_init_33 mn_X0_29 (c_X2_init _ x_29.1 n_29 (by omega)) rfl rfl (Nat.le_of_ble_eq_true rfl) ?_
  (rintro v G33 I33 R33 ⟨rfl, x_33, f_33, p_33⟩)
  have hb := x_33.2 _ _ hb
  refine PW.putrF (pc := 36) dX0_init_36 fl_X0_30 rfl cl_X0 (by first | assumption | rfl) ?_
  refine PW.aload_n (pc := 39) dX0_init_39 rfl ?_
  refine PW.bipush (pc := 40) dX0_init_40 (by decide) ?_
  refine PW.newi' (pc := 42) (N := 32) (b := b + 16) dX0_init_42 rfl (by decide) (by have w_ := x_33.1; omega) (by omega) (fun G_42 x_42 n_42 => ?_)
  have hb := x_42.2 _ _ hb
  refine PW.putrF (pc := 44) dX0_init_44 fl_X0_34 rfl cl_X0 (by first | assumption | rfl) ?_
  refine PW.aload_n (pc := 47) dX0_init_47 rfl ?_
  refine PW.getr (pc := 48) dX0_init_48 fl_X0_34 (by first | assumption | rfl) (pw_upr_self _ _ _ _) ?_
  refine PW.iconst (pc := 51) dX0_init_51 ?_
  refine PW.invS (μ := mX0_init) (pc := 52) dX0_init_52 ms_X0_38 (c_fill _ n_42 (by omega)) rfl rfl (Nat.le_of_ble_eq_true rfl) ?_
  (rintro v G52 I44 R52 ⟨rfl, rfl, rfl, m1, m2⟩)
  exact PW.vreturn (pc := 55) dX0_init_55 rfl (by
  have y3 := x_42
  have y2 := (x_29.tr x_33).tr y3
  have y1 := (x_16.tr x_22).tr y2
  have i3 : ∀ q, q < b + 16 → I44 q = I33 q := fun q g => by funext z; rw [m1 q z (by omega), pw_zi_ne (by omega)]
  have i2 : ∀ q, q < b + 9 → I44 q = I22 q := fun q g => by rw [i3 q (by omega), (f_33 q g).1, pw_zi_ne (by omega)]
  have i1 : ∀ q, q < b + 3 → I44 q = I9 q := fun q g => by rw [i2 q (by omega), (f_22 q g).1, pw_zi_ne (by omega)]
  refine ⟨rfl, ((x_5.tr x_9).tr y1), fun q g => ⟨?_, ?_⟩, ⟨hb, ?_, ?_, ?_, pw_upr_self _ _ _ _, n_42, p_9.ext y1.2 ?_, p_22.ext y2.2 ?_, p_33.ext y3.2 ?_⟩, B_22.of (fun q g1 g2 => i2 q (by omega)), by rw [i2 _ (by omega)]; exact z6_22, fun lag fw l f => Or.inl (m2 _ (by omega) (by omega))⟩
  · rw [i1 q (by omega), (f_9 q (by omega)).1, pw_zi_ne (by omega)]
  · rw [pw_upr_ne q (by omega), pw_zr_ne (by omega), pw_upr_ne q (by omega), (f_33 q (by omega)).2, pw_zr_ne (by omega), pw_upr_ne q (by omega), (f_22 q (by omega)).2, pw_zr_ne (by omega), pw_upr_ne q (by omega), (f_9 q (by omega)).2, pw_zr_ne (by omega)]
  · rw [pw_upr_other (by omega), pw_zr_ne (by omega), pw_upr_other (by omega), (f_33 b (by omega)).2, pw_zr_ne (by omega), pw_upr_other (by omega), (f_22 b (by omega)).2, pw_zr_ne (by omega), pw_upr_self]
  · rw [pw_upr_other (by omega), pw_zr_ne (by omega), pw_upr_other (by omega), (f_33 b (by omega)).2, pw_zr_ne (by omega), pw_upr_self]
  · rw [pw_upr_other (by omega), pw_zr_ne (by omega), pw_upr_self]
  · rw [pw_upr_ne _ (by omega), pw_zr_ne (by omega), pw_upr_ne _ (by omega), (f_33 _ (by omega)).2, pw_zr_ne (by omega), pw_upr_ne _ (by omega), (f_22 _ (by omega)).2, pw_zr_ne (by omega), pw_upr_ne _ (by omega)]
  · rw [pw_upr_ne _ (by omega), pw_zr_ne (by omega), pw_upr_ne _ (by omega), (f_33 _ (by omega)).2, pw_zr_ne (by omega), pw_upr_ne _ (by omega)]
  · rw [pw_upr_ne _ (by omega), pw_zr_ne (by omega), pw_upr_ne _ (by omega)])
set_option maxRecDepth 100000 in
set_option maxHeartbeats 1000000 in
theorem c_X3_init (d : Nat) {b : Nat} (hl : Γ.length = b + 1) (hb : Γ[b]? = some (.inl 3)) (hs : b < 90000) : PC sc mX3_init (d + 4) (4 * 10 + 1) (14 * 10 + 10) [.inr (some b)] Γ I R (NP Γ I R b 42 (fun Γ' I' R' => HistAt Γ' R' b ∧ HPos Γ' R' b (fun i => b + 2 + 4 * i.toNat))) := by
  have loop : ∀ (N k : Nat) (G : List PTy) (J : PIm) (Rk : PRm), k + N = 10 → Gex Γ G (b + 2 + 4 * k) → HistAt G Rk b → (∀ q, q < b → J q = I q ∧ Rk q = R q) → (∀ i : Int, 0 ≤ i → i < k → Rk (b + 1) i = some (b + 2 + 4 * i.toNat) ∧ SetAt G Rk (b + 2 + 4 * i.toNat)) → PW sc mX3_init (d + 4) (4 * N) (14 * N) (NP Γ I R b 42 (fun Γ' I' R' => HistAt Γ' R' b ∧ HPos Γ' R' b (fun i => b + 2 + 4 * i.toNat))) 15 [some (.inr (some b)), some (.inl (k : Int))] [] G J Rk := by
    intro N
    induction N with
    | zero =>
      intro k G J Rk hk xG A fr rws
      obtain rfl : k = 10 := by omega
      refine PW.iload_n (pc := 15) dX3_init_15 rfl ?_
      refine PW.bipush (pc := 16) dX3_init_16 (by decide) ?_
      refine PW.icmp_ge (pc := 18) (tgt := 40) dX3_init_18 (by decide) (by first | omega | exact rg_of _) (by first | omega | exact rg_of _) (fun c_18 => ?_) (fun c_18 => ?_)
      · exact PW.vreturn (pc := 40) dX3_init_40 rfl (⟨rfl, xG, fr, A, fun i i0 i1 => ⟨(rws i i0 (by omega)).1, (rws i i0 (by omega)).2, by dsimp only; omega, by dsimp only; omega⟩, fun i j i0 i1 j0 j1 hij => by dsimp only; omega⟩)
      · omega
    | succ N ih =>
      intro k G J Rk hk xG A fr rws
      obtain ⟨hb, h0, g1⟩ := id A
      have hl := xG.1
      refine PW.room (kc := 4 * N + (0 + 0 + 1 + (0 + 1) + 1) + 1) (ks := 14 * N + (0 + 0 + pw_fn 4 + (0 + 6) + pw_fn 5) + pw_fn 7) (by omega) (by show 14 * N + (0 + 0 + 3 + (0 + 6) + 2) + 3 ≤ 14 * (N + 1); omega) ?_
      refine PW.iload_n (pc := 15) dX3_init_15 rfl ?_
      refine PW.bipush (pc := 16) dX3_init_16 (by decide) ?_
      refine PW.icmp_ge (pc := 18) (tgt := 40) dX3_init_18 (by decide) (by first | omega | exact rg_of _) (by first | omega | exact rg_of _) (fun c_18 => ?_) (fun c_18 => ?_)
      · omega
      · refine PW.aload_n (pc := 21) dX3_init_21 rfl ?_
        refine PW.getr (pc := 22) dX3_init_22 fl_X3_11 (by first | assumption | rfl) (by first | assumption | rfl) ?_
        refine PW.iload_n (pc := 25) dX3_init_25 rfl ?_
        refine PW.new' (pc := 26) (b := b + 2 + 4 * k) dX3_init_26 cl_X7 nw_X3_9 kd_X7 (by have w_ := hl; omega) (by omega) (fun G_26 x_26 n_26 => ?_)
        have hb := x_26.2 _ _ hb
        refine PW.dup (pc := 29) dX3_init_29 ?_
        refine PW.invN (μ := mX3_init) (pc := 30) dX3_init_30 mn_X3_17 (c_X7_init _ x_26.1 n_26 (by omega)) rfl rfl (Nat.le_of_ble_eq_true rfl) ?_
        (rintro v G30 I30 R30 ⟨rfl, x_30, f_30, p_30⟩)
        have g1b := x_30.2 _ _ (x_26.2 _ _ g1)
        have n_30 := x_30.2 _ _ n_26
        have hb := x_30.2 _ _ hb
        refine PW.aast (pc := 33) dX3_init_33 (by first | assumption | rfl) (by first | assumption | rfl) (by omega) (by omega) (by omega) ?_
        skip
        have eR : ∀ q, q < b + 2 + 4 * k → q ≠ b + 1 → pw_upr R30 (b + 1) (k : Int) (some (b + 2 + 4 * k)) q = Rk q := fun q a c => by rw [pw_upr_ne q c, (f_30 q (by omega)).2, pw_zr_ne (by omega)]
        have nx := ih (k + 1) G30 I30 (pw_upr R30 (b + 1) (k : Int) (some (b + 2 + 4 * k))) (by omega) ((xG.tr x_26).tr x_30) ⟨hb, by rw [eR b (by omega) (by omega)]; exact h0, g1b⟩ (fun q g => ⟨by rw [(f_30 q (by omega)).1, pw_zi_ne (by omega), (fr q g).1], by rw [eR q (by omega) (by omega), (fr q g).2]⟩) (fun i i0 i1 => by
          by_cases q : i = (k : Int)
          · subst q
            exact ⟨pw_upr_self _ _ _ _, p_30.ext (fun _ _ h => h) (fun q g1 g2 => pw_upr_ne q (by omega))⟩
          · obtain ⟨a1, a2⟩ := rws i i0 (by omega)
            exact ⟨by rw [pw_upr_other (by omega), (f_30 _ (by omega)).2, pw_zr_ne (by omega)]; exact a1, a2.ext (x_26.tr x_30).2 (fun q g1 g2 => eR q (by omega) (by omega))⟩)
        refine PW.iinc (pc := 34) dX3_init_34 rfl (by decide) ?_
        refine PW.goto (pc := 37) (tgt := 15) dX3_init_37 (by decide) ?_
        exact nx
  refine PC.ofPW (by decide) (Nat.le_of_ble_eq_true rfl) ?_
  refine PW.aload_n (pc := 0) dX3_init_0 rfl ?_
  refine PW.obj (pc := 1) dX3_init_1 ob_X3_3 (Nat.le_of_ble_eq_true rfl) ?_
  refine PW.aload_n (pc := 4) dX3_init_4 rfl ?_
  refine PW.bipush (pc := 5) dX3_init_5 (by decide) ?_
  refine PW.newq' (pc := 7) (N := 10) (b := b + 1) dX3_init_7 nw_X3_9.1 rfl (by decide) (by have w_ := hl; omega) (by omega) (fun G_7 x_7 n_7 => ?_)
  have hb := x_7.2 _ _ hb
  refine PW.putrF (pc := 10) dX3_init_10 fl_X3_11 rfl cl_X3 (by first | assumption | rfl) ?_
  refine PW.iconst (pc := 13) dX3_init_13 ?_
  refine PW.istore_n (pc := 14) dX3_init_14 (by decide) ?_
  exact loop 10 0 _ _ _ (by omega) x_7 ⟨hb, pw_upr_self _ _ _ _, n_7⟩ (fun q g => ⟨by rw [pw_zi_ne (by omega)], by rw [pw_upr_ne q (by omega), pw_zr_ne (by omega)]⟩) (fun i i0 i1 => by omega)
end INIT2
