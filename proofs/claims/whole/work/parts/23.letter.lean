section LETTER
variable {sc : PSc} {Γ : List PTy} {R : PRm}
/-- the k-th letter of a term; none -/
def ltr (t : Tm) (k : Int) : Int := if 0 ≤ k ∧ k < siz t then (ltrs t).getD k.toNat 0 else -9
set_option maxRecDepth 100000 in
set_option maxHeartbeats 4000000 in
theorem ltr_out {t : Tm} {k : Int} (h : ¬ (0 ≤ k ∧ k < siz t)) : ltr t k = -9 := if_neg h
set_option maxRecDepth 100000 in
set_option maxHeartbeats 4000000 in
theorem ltr_tf {t : Tm} {k : Int} (h : 0 < k) (h1 : k < siz (tf t)) : ltr (tf t) k = ltr t (k - 1) := by
  rw [siz_tf] at h1
  unfold ltr
  rw [if_pos ⟨by omega, by rw [siz_tf]; exact h1⟩, if_pos ⟨by omega, by omega⟩, ltrs_tf, show k.toNat = (k - 1).toNat + 1 by omega]
  rfl
set_option maxRecDepth 100000 in
set_option maxHeartbeats 4000000 in
theorem ltr_tg1 {a b : Tm} {k : Int} (h : 0 < k) (h1 : k - 1 < siz a) : ltr (tg a b) k = ltr a (k - 1) := by
  have := siz_pos b
  unfold ltr
  rw [if_pos ⟨by omega, by rw [siz_tg]; omega⟩, if_pos ⟨by omega, by omega⟩, ltrs_tg, show k.toNat = (k - 1).toNat + 1 by omega, List.getD_cons_succ, List.getD_eq_getElem?_getD, List.getD_eq_getElem?_getD, List.getElem?_append_left]
  unfold siz at h1
  omega
set_option maxRecDepth 100000 in
set_option maxHeartbeats 4000000 in
theorem ltr_tg2 {a b : Tm} {k : Int} (h1 : siz a ≤ k - 1) (h2 : k < siz (tg a b)) : ltr (tg a b) k = ltr b (k - 1 - siz a) := by
  have := siz_pos a
  rw [siz_tg] at h2
  unfold ltr
  rw [if_pos ⟨by omega, by rw [siz_tg]; exact h2⟩, if_pos ⟨by omega, by omega⟩, ltrs_tg, show k.toNat = (k - 1).toNat + 1 by omega, List.getD_cons_succ, List.getD_eq_getElem?_getD, List.getD_eq_getElem?_getD, List.getElem?_append_right]
  · congr 2
    unfold siz
    omega
  · unfold siz at h1
    omega
set_option maxRecDepth 100000 in
set_option maxHeartbeats 4000000 in
theorem ltr_0c {i : Int} (h : 0 ≤ i) : ltr (tc i) 0 = 97 + i := by
  unfold ltr
  rw [if_pos ⟨by omega, by rw [siz_tc]; decide⟩, ltrs_tc h]
  rfl
set_option maxRecDepth 100000 in
set_option maxHeartbeats 4000000 in
theorem ltr_0f (t : Tm) : ltr (tf t) 0 = 102 := by
  unfold ltr
  rw [if_pos ⟨by omega, by have := siz_pos (tf t); omega⟩]
  rfl
set_option maxRecDepth 100000 in
set_option maxHeartbeats 4000000 in
theorem ltr_0g (a b : Tm) : ltr (tg a b) 0 = 103 := by
  unfold ltr
  rw [if_pos ⟨by omega, by have := siz_pos (tg a b); omega⟩]
  rfl
set_option maxRecDepth 100000 in
set_option maxHeartbeats 4000000 in
theorem Tab.sign {I : PIm} {h : Nat} {sz : Int} {tb : Int → Tm} (T : Tab I h sz tb) {i : Int} (h0 : 0 ≤ i) (h1 : i < sz) : (if I (h + 1) i = 4 then 102 else if I (h + 1) i = 5 then 103 else 97 + I (h + 1) i) = ltr (tb i) 0 := by
  obtain ⟨r1, r2, -⟩ := T.row h0 h1
  by_cases hi : i < 4
  · obtain ⟨a, b, -⟩ := r1 hi
    rw [a, b, if_neg (by omega), if_neg (by omega), ltr_0c h0]
  · obtain ⟨-, q⟩ := r2 (by omega)
    rcases q with ⟨w1, -, w3⟩ | ⟨w1, w3⟩
    · rw [w1, w3, ltr_0f, if_pos rfl]
    · rw [w1, w3, ltr_0g, if_neg (by decide), if_pos rfl]
set_option maxRecDepth 100000 in
set_option maxHeartbeats 4000000 in
theorem c_X8_letterOf (d : Nat) {I : PIm} {h n : Nat} {tb : Int → Tm} {i k : Int} (T : TermsAt Γ R h n) (TB : Tab I h (I h 5) tb) (hz : I h 5 ≤ n) (h0 : 0 ≤ i) (h1 : i < I h 5) (hs : siz (tb i) ≤ 1000000) (hk : Rg k) : PC sc mX8_letterOf (d + 2) 0 0 [.inr (some h), .inl i, .inl k] Γ I R (px (some (.inl (ltr (tb i) k))) Γ I R) := by
  obtain ⟨t0, t1, t2, t3, t4, t5, t6, t7, t8, t9, t10, t11⟩ := id T
  have loop : ∀ (N : Nat) (at_ ahead level : Int) (o : Option PV), at_.toNat = N → 0 ≤ at_ → at_ < I h 5 → 0 ≤ ahead → ahead < siz (tb at_) → siz (tb at_) ≤ 1000000 → 0 ≤ level → level + at_ ≤ i → ltr (tb at_) ahead = ltr (tb i) k → PW sc mX8_letterOf (d + 2) 0 0 (px (some (.inl (ltr (tb i) k))) Γ I R) 33 [some (.inr (some h)), some (.inl i), some (.inl k), some (.inl at_), some (.inl ahead), some (.inl level), o] [] Γ I R := by
    intro N
    induction N using Nat.strongRecOn with
    | _ N ih =>
      intro at_ ahead level o hN a0 a1 b0 b1 b2 l0 l1 he
      have hr := TB.hd a0 a1
      by_cases hc : ahead = 0
      · subst hc
        refine PW.iload (pc := 33) dX8_letterOf_33 rfl ?_
        refine PW.aload_n (pc := 35) dX8_letterOf_35 rfl ?_
        refine PW.getr (pc := 36) dX8_letterOf_36 fl_X8_15 (by first | assumption | rfl) (by first | assumption | rfl) ?_
        refine PW.alen (pc := 39) dX8_letterOf_39 (by first | assumption | rfl) ?_
        refine PW.icmp_ge (pc := 40) (tgt := 108) dX8_letterOf_40 (by decide) (by first | omega | exact rg_of _) (by first | omega | exact rg_of _) (fun c_40 => ?_) (fun c_40 => ?_)
        · omega
        · refine PW.iload (pc := 43) dX8_letterOf_43 rfl ?_
          refine PW.if_le (pc := 45) (tgt := 108) dX8_letterOf_45 (by decide) (by first | omega | exact rg_of _) (fun c_45 => ?_) (fun c_45 => ?_)
          · refine PW.aload_n (pc := 108) dX8_letterOf_108 rfl ?_
            refine PW.iload_n (pc := 109) dX8_letterOf_109 rfl ?_
            refine PW.invV0x (pc := 110) dX8_letterOf_110 mv_X8_47 (c_X8_has (d + 1) T (by omega) (by omega)) (by first | assumption | rfl) rfl rfl (Nat.le_of_ble_eq_true rfl) ?_
            refine PW.if_eq (pc := 113) (tgt := 128) dX8_letterOf_113 (by decide) (rg_bi _) (fun c_113 => ?_) (fun c_113 => ?_)
            · exact absurd (by omega) (bi0 c_113)
            · refine PW.aload_n (pc := 116) dX8_letterOf_116 rfl ?_
              refine PW.getr (pc := 117) dX8_letterOf_117 fl_X8_15 (by first | assumption | rfl) (by first | assumption | rfl) ?_
              refine PW.iload_n (pc := 120) dX8_letterOf_120 rfl ?_
              refine PW.iald (pc := 121) dX8_letterOf_121 (by first | assumption | rfl) (by omega) (by omega) (by omega) ?_
              refine PW.invS0x (pc := 122) dX8_letterOf_122 ms_X8_55 (c_X8_signOf (d + 1) (by omega)) rfl rfl (Nat.le_of_ble_eq_true rfl) ?_
              refine PW.goto (pc := 125) (tgt := 130) dX8_letterOf_125 (by decide) ?_
              exact PW.ireturn (pc := 130) dX8_letterOf_130 rfl (by rw [← he, ← TB.sign a0 a1]; exact px_rfl)
          · omega
      · obtain ⟨r1, r2, -⟩ := TB.row a0 a1
        have h4 : 4 ≤ at_ := by
          by_cases q : at_ < 4
          · rw [(r1 q).2.1, siz_tc] at b1
            omega
          · omega
        obtain ⟨⟨q1, q2, q3, q4⟩, q⟩ := r2 h4
        have sl : I (h + 5) (I (h + 2) at_) = siz (tb (I (h + 2) at_)) := (TB.row q1 (by omega)).2.2.2.1
        have sp := siz_pos (tb (I (h + 2) at_))
        have sq := siz_pos (tb (I (h + 3) at_))
        by_cases hw : I (h + 1) at_ = 4
        · obtain ⟨w1, w2, w3⟩ : I (h + 1) at_ = 4 ∧ I (h + 3) at_ = I (h + 2) at_ ∧ tb at_ = tf (tb (I (h + 2) at_)) := by
            rcases q with w | w
            · exact w
            · omega
          have es : siz (tb at_) = 1 + siz (tb (I (h + 2) at_)) := by rw [w3, siz_tf]
          have el : ltr (tb (I (h + 2) at_)) (ahead - 1) = ltr (tb i) k := by rw [← he, w3, ltr_tf (by omega) (by rw [← w3]; exact b1)]
          refine PW.iload (pc := 33) dX8_letterOf_33 rfl ?_
          refine PW.aload_n (pc := 35) dX8_letterOf_35 rfl ?_
          refine PW.getr (pc := 36) dX8_letterOf_36 fl_X8_15 (by first | assumption | rfl) (by first | assumption | rfl) ?_
          refine PW.alen (pc := 39) dX8_letterOf_39 (by first | assumption | rfl) ?_
          refine PW.icmp_ge (pc := 40) (tgt := 108) dX8_letterOf_40 (by decide) (by first | omega | exact rg_of _) (by first | omega | exact rg_of _) (fun c_40 => ?_) (fun c_40 => ?_)
          · omega
          · refine PW.iload (pc := 43) dX8_letterOf_43 rfl ?_
            refine PW.if_le (pc := 45) (tgt := 108) dX8_letterOf_45 (by decide) (by first | omega | exact rg_of _) (fun c_45 => ?_) (fun c_45 => ?_)
            · omega
            · refine PW.aload_n (pc := 48) dX8_letterOf_48 rfl ?_
              refine PW.iload_n (pc := 49) dX8_letterOf_49 rfl ?_
              refine PW.invV0x (pc := 50) dX8_letterOf_50 mv_X8_47 (c_X8_has (d + 1) T (by omega) (by omega)) (by first | assumption | rfl) rfl rfl (Nat.le_of_ble_eq_true rfl) ?_
              refine PW.if_eq (pc := 53) (tgt := 108) dX8_letterOf_53 (by decide) (rg_bi _) (fun c_53 => ?_) (fun c_53 => ?_)
              · exact absurd (by omega) (bi0 c_53)
              · refine PW.iinc (pc := 56) dX8_letterOf_56 rfl (by decide) ?_
                refine PW.aload_n (pc := 59) dX8_letterOf_59 rfl ?_
                refine PW.aload_n (pc := 60) dX8_letterOf_60 rfl ?_
                refine PW.getr (pc := 61) dX8_letterOf_61 fl_X8_21 (by first | assumption | rfl) (by first | assumption | rfl) ?_
                refine PW.iload_n (pc := 64) dX8_letterOf_64 rfl ?_
                refine PW.iald (pc := 65) dX8_letterOf_65 (by first | assumption | rfl) (by omega) (by omega) (by omega) ?_
                refine PW.invV0x (pc := 66) dX8_letterOf_66 mv_X8_51 (c_X8_lettersOf d T hz q1 (by omega)) (by first | assumption | rfl) rfl rfl (Nat.le_of_ble_eq_true rfl) ?_
                rw [sl]
                refine PW.istore (pc := 69) dX8_letterOf_69 (by decide) ?_
                refine PW.iload (pc := 71) dX8_letterOf_71 rfl ?_
                refine PW.iload (pc := 73) dX8_letterOf_73 rfl ?_
                refine PW.icmp_ge (pc := 75) (tgt := 88) dX8_letterOf_75 (by decide) (by first | omega | exact rg_of _) (by first | omega | exact rg_of _) (fun c_75 => ?_) (fun c_75 => ?_)
                · omega
                · refine PW.aload_n (pc := 78) dX8_letterOf_78 rfl ?_
                  refine PW.getr (pc := 79) dX8_letterOf_79 fl_X8_21 (by first | assumption | rfl) (by first | assumption | rfl) ?_
                  refine PW.iload_n (pc := 82) dX8_letterOf_82 rfl ?_
                  refine PW.iald (pc := 83) dX8_letterOf_83 (by first | assumption | rfl) (by omega) (by omega) (by omega) ?_
                  refine PW.istore_n (pc := 84) dX8_letterOf_84 (by decide) ?_
                  refine PW.goto (pc := 85) (tgt := 102) dX8_letterOf_85 (by decide) ?_
                  refine PW.iinc (pc := 102) dX8_letterOf_102 rfl (by decide) ?_
                  refine PW.goto (pc := 105) (tgt := 33) dX8_letterOf_105 (by decide) ?_
                  exact ih _ (by omega) _ _ (level + 1) _ rfl q1 (by omega) (by omega) (by omega) (by omega) (by omega) (by omega) el
        · obtain ⟨w1, w3⟩ : I (h + 1) at_ = 5 ∧ tb at_ = tg (tb (I (h + 2) at_)) (tb (I (h + 3) at_)) := by
            rcases q with w | w
            · omega
            · exact w
          have es : siz (tb at_) = 1 + siz (tb (I (h + 2) at_)) + siz (tb (I (h + 3) at_)) := by rw [w3, siz_tg]
          refine PW.iload (pc := 33) dX8_letterOf_33 rfl ?_
          refine PW.aload_n (pc := 35) dX8_letterOf_35 rfl ?_
          refine PW.getr (pc := 36) dX8_letterOf_36 fl_X8_15 (by first | assumption | rfl) (by first | assumption | rfl) ?_
          refine PW.alen (pc := 39) dX8_letterOf_39 (by first | assumption | rfl) ?_
          refine PW.icmp_ge (pc := 40) (tgt := 108) dX8_letterOf_40 (by decide) (by first | omega | exact rg_of _) (by first | omega | exact rg_of _) (fun c_40 => ?_) (fun c_40 => ?_)
          · omega
          · refine PW.iload (pc := 43) dX8_letterOf_43 rfl ?_
            refine PW.if_le (pc := 45) (tgt := 108) dX8_letterOf_45 (by decide) (by first | omega | exact rg_of _) (fun c_45 => ?_) (fun c_45 => ?_)
            · omega
            · refine PW.aload_n (pc := 48) dX8_letterOf_48 rfl ?_
              refine PW.iload_n (pc := 49) dX8_letterOf_49 rfl ?_
              refine PW.invV0x (pc := 50) dX8_letterOf_50 mv_X8_47 (c_X8_has (d + 1) T (by omega) (by omega)) (by first | assumption | rfl) rfl rfl (Nat.le_of_ble_eq_true rfl) ?_
              refine PW.if_eq (pc := 53) (tgt := 108) dX8_letterOf_53 (by decide) (rg_bi _) (fun c_53 => ?_) (fun c_53 => ?_)
              · exact absurd (by omega) (bi0 c_53)
              · refine PW.iinc (pc := 56) dX8_letterOf_56 rfl (by decide) ?_
                refine PW.aload_n (pc := 59) dX8_letterOf_59 rfl ?_
                refine PW.aload_n (pc := 60) dX8_letterOf_60 rfl ?_
                refine PW.getr (pc := 61) dX8_letterOf_61 fl_X8_21 (by first | assumption | rfl) (by first | assumption | rfl) ?_
                refine PW.iload_n (pc := 64) dX8_letterOf_64 rfl ?_
                refine PW.iald (pc := 65) dX8_letterOf_65 (by first | assumption | rfl) (by omega) (by omega) (by omega) ?_
                refine PW.invV0x (pc := 66) dX8_letterOf_66 mv_X8_51 (c_X8_lettersOf d T hz q1 (by omega)) (by first | assumption | rfl) rfl rfl (Nat.le_of_ble_eq_true rfl) ?_
                rw [sl]
                refine PW.istore (pc := 69) dX8_letterOf_69 (by decide) ?_
                refine PW.iload (pc := 71) dX8_letterOf_71 rfl ?_
                refine PW.iload (pc := 73) dX8_letterOf_73 rfl ?_
                refine PW.icmp_ge (pc := 75) (tgt := 88) dX8_letterOf_75 (by decide) (by first | omega | exact rg_of _) (by first | omega | exact rg_of _) (fun c_75 => ?_) (fun c_75 => ?_)
                · refine PW.iload (pc := 88) dX8_letterOf_88 rfl ?_
                  refine PW.iload (pc := 90) dX8_letterOf_90 rfl ?_
                  refine PW.isub (pc := 92) dX8_letterOf_92 ?_
                  refine PW.istore (pc := 93) dX8_letterOf_93 (by decide) ?_
                  refine PW.aload_n (pc := 95) dX8_letterOf_95 rfl ?_
                  refine PW.getr (pc := 96) dX8_letterOf_96 fl_X8_24 (by first | assumption | rfl) (by first | assumption | rfl) ?_
                  refine PW.iload_n (pc := 99) dX8_letterOf_99 rfl ?_
                  refine PW.iald (pc := 100) dX8_letterOf_100 (by first | assumption | rfl) (by omega) (by omega) (by omega) ?_
                  refine PW.istore_n (pc := 101) dX8_letterOf_101 (by decide) ?_
                  refine PW.iinc (pc := 102) dX8_letterOf_102 rfl (by decide) ?_
                  refine PW.goto (pc := 105) (tgt := 33) dX8_letterOf_105 (by decide) ?_
                  first | exact ih _ (by omega) _ _ (level + 1) _ rfl q1 (by omega) (by omega) (by omega) (by omega) (by omega) (by omega) (by rw [← he, w3, ltr_tg1 (by omega) (by omega)]; rfl) | exact ih _ (by omega) _ _ (level + 1) _ rfl q3 (by omega) (by omega) (by omega) (by omega) (by omega) (by omega) (by rw [← he, w3, ltr_tg2 (by omega) (by rw [← w3]; exact b1)]; rfl)
                · refine PW.aload_n (pc := 78) dX8_letterOf_78 rfl ?_
                  refine PW.getr (pc := 79) dX8_letterOf_79 fl_X8_21 (by first | assumption | rfl) (by first | assumption | rfl) ?_
                  refine PW.iload_n (pc := 82) dX8_letterOf_82 rfl ?_
                  refine PW.iald (pc := 83) dX8_letterOf_83 (by first | assumption | rfl) (by omega) (by omega) (by omega) ?_
                  refine PW.istore_n (pc := 84) dX8_letterOf_84 (by decide) ?_
                  refine PW.goto (pc := 85) (tgt := 102) dX8_letterOf_85 (by decide) ?_
                  refine PW.iinc (pc := 102) dX8_letterOf_102 rfl (by decide) ?_
                  refine PW.goto (pc := 105) (tgt := 33) dX8_letterOf_105 (by decide) ?_
                  first | exact ih _ (by omega) _ _ (level + 1) _ rfl q1 (by omega) (by omega) (by omega) (by omega) (by omega) (by omega) (by rw [← he, w3, ltr_tg1 (by omega) (by omega)]; rfl) | exact ih _ (by omega) _ _ (level + 1) _ rfl q3 (by omega) (by omega) (by omega) (by omega) (by omega) (by omega) (by rw [← he, w3, ltr_tg2 (by omega) (by rw [← w3]; exact b1)]; rfl)
  have si : I (h + 5) i = siz (tb i) := (TB.row h0 h1).2.2.2.1
  have sp := siz_pos (tb i)
  refine PC.ofPW (by decide) (Nat.le_of_ble_eq_true rfl) ?_
  refine PW.aload_n (pc := 0) dX8_letterOf_0 rfl ?_
  refine PW.iload_n (pc := 1) dX8_letterOf_1 rfl ?_
  refine PW.invV0x (pc := 2) dX8_letterOf_2 mv_X8_47 (c_X8_has (d + 1) T (by omega) (by omega)) (by first | assumption | rfl) rfl rfl (Nat.le_of_ble_eq_true rfl) ?_
  refine PW.if_eq (pc := 5) (tgt := 22) dX8_letterOf_5 (by decide) (rg_bi _) (fun c_5 => ?_) (fun c_5 => ?_)
  · exact absurd (by omega) (bi0 c_5)
  · refine PW.iload_n (pc := 8) dX8_letterOf_8 rfl ?_
    refine PW.if_lt (pc := 9) (tgt := 22) dX8_letterOf_9 (by decide) (by first | omega | exact rg_of _) (fun c_9 => ?_) (fun c_9 => ?_)
    · refine PW.bipush (pc := 22) dX8_letterOf_22 (by decide) ?_
      exact PW.ireturn (pc := 24) dX8_letterOf_24 rfl (by rw [ltr_out (by omega)]; exact px_rfl)
    · refine PW.iload_n (pc := 12) dX8_letterOf_12 rfl ?_
      refine PW.aload_n (pc := 13) dX8_letterOf_13 rfl ?_
      refine PW.getr (pc := 14) dX8_letterOf_14 fl_X8_30 (by first | assumption | rfl) (by first | assumption | rfl) ?_
      refine PW.iload_n (pc := 17) dX8_letterOf_17 rfl ?_
      refine PW.iald (pc := 18) dX8_letterOf_18 (by first | assumption | rfl) (by omega) (by omega) (by omega) ?_
      rw [si]
      refine PW.icmp_lt (pc := 19) (tgt := 25) dX8_letterOf_19 (by decide) (by first | omega | exact rg_of _) (by first | omega | exact rg_of _) (fun c_19 => ?_) (fun c_19 => ?_)
      · refine PW.iload_n (pc := 25) dX8_letterOf_25 rfl ?_
        refine PW.istore_n (pc := 26) dX8_letterOf_26 (by decide) ?_
        refine PW.iload_n (pc := 27) dX8_letterOf_27 rfl ?_
        refine PW.istore (pc := 28) dX8_letterOf_28 (by decide) ?_
        refine PW.iconst (pc := 30) dX8_letterOf_30 ?_
        refine PW.istore (pc := 31) dX8_letterOf_31 (by decide) ?_
        exact loop _ i k 0 _ rfl h0 h1 (by omega) (by omega) hs (by omega) (by omega) rfl
      · refine PW.bipush (pc := 22) dX8_letterOf_22 (by decide) ?_
        exact PW.ireturn (pc := 24) dX8_letterOf_24 rfl (by rw [ltr_out (by omega)]; exact px_rfl)
end LETTER
