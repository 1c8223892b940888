section FLOWREST
variable {sc : PSc} {Γ : List PTy} {R : PRm}
set_option maxRecDepth 100000 in
set_option maxHeartbeats 4000000 in
theorem c_X2_stepAt (d : Nat) {I : PIm} {f : Nat} {k : Int} (F : FlowAt Γ R f) (hk : 0 ≤ k ∧ k < 6) : PC sc mX2_stepAt d 0 0 [.inr (some f), .inl k] Γ I R (px (some (.inl (I (f + 4) k))) Γ I R) := by
  obtain ⟨f0, f1, f2, f3, f4, f5, f6, f7, f8, f9, f10, f11, f12⟩ := id F
  refine PC.ofPW (by decide) (Nat.le_of_ble_eq_true rfl) ?_
  refine PW.iload_n (pc := 0) dX2_stepAt_0 rfl ?_
  refine PW.if_lt (pc := 1) (tgt := 19) dX2_stepAt_1 (by decide) (by first | omega | exact rg_of _) (fun c_1 => ?_) (fun c_1 => ?_)
  · omega
  · refine PW.iload_n (pc := 4) dX2_stepAt_4 rfl ?_
    refine PW.bipush (pc := 5) dX2_stepAt_5 (by decide) ?_
    refine PW.icmp_ge (pc := 7) (tgt := 19) dX2_stepAt_7 (by decide) (by first | omega | exact rg_of _) (by first | omega | exact rg_of _) (fun c_7 => ?_) (fun c_7 => ?_)
    · omega
    · refine PW.aload_n (pc := 10) dX2_stepAt_10 rfl ?_
      refine PW.getr (pc := 11) dX2_stepAt_11 fl_X2_21 (by first | assumption | rfl) (by first | assumption | rfl) ?_
      refine PW.iload_n (pc := 14) dX2_stepAt_14 rfl ?_
      refine PW.iald (pc := 15) dX2_stepAt_15 (by first | assumption | rfl) (by omega) (by omega) (by omega) ?_
      refine PW.goto (pc := 16) (tgt := 20) dX2_stepAt_16 (by decide) ?_
      exact PW.ireturn (pc := 20) dX2_stepAt_20 rfl (px_rfl)
set_option maxRecDepth 100000 in
set_option maxHeartbeats 4000000 in
theorem c_X2_lastOf (d : Nat) {I : PIm} {f : Nat} {r b : Int} (F : FlowAt Γ R f) (hr : 0 ≤ r ∧ r < 4) (hb : b = 0 ∨ b = 1) : PC sc mX2_lastOf d 0 0 [.inr (some f), .inl r, .inl b] Γ I R (px (some (.inl (if b = 0 then I (f + 1) r else I (f + 2) r))) Γ I R) := by
  obtain ⟨f0, f1, f2, f3, f4, f5, f6, f7, f8, f9, f10, f11, f12⟩ := id F
  refine PC.ofPW (by decide) (Nat.le_of_ble_eq_true rfl) ?_
  refine PW.iload_n (pc := 0) dX2_lastOf_0 rfl ?_
  refine PW.if_lt (pc := 1) (tgt := 9) dX2_lastOf_1 (by decide) (by first | omega | exact rg_of _) (fun c_1 => ?_) (fun c_1 => ?_)
  · omega
  · refine PW.iload_n (pc := 4) dX2_lastOf_4 rfl ?_
    refine PW.iconst (pc := 5) dX2_lastOf_5 ?_
    refine PW.icmp_lt (pc := 6) (tgt := 11) dX2_lastOf_6 (by decide) (by first | omega | exact rg_of _) (by first | omega | exact rg_of _) (fun c_6 => ?_) (fun c_6 => ?_)
    · refine PW.iload_n (pc := 11) dX2_lastOf_11 rfl ?_
      refine PW.if_eq (pc := 12) (tgt := 24) dX2_lastOf_12 (by decide) (by first | omega | exact rg_of _) (fun c_12 => ?_) (fun c_12 => ?_)
      · refine PW.aload_n (pc := 24) dX2_lastOf_24 rfl ?_
        refine PW.getr (pc := 25) dX2_lastOf_25 fl_X2_9 (by first | assumption | rfl) (by first | assumption | rfl) ?_
        refine PW.iload_n (pc := 28) dX2_lastOf_28 rfl ?_
        refine PW.iald (pc := 29) dX2_lastOf_29 (by first | assumption | rfl) (by omega) (by omega) (by omega) ?_
        exact PW.ireturn (pc := 30) dX2_lastOf_30 rfl (by first | (rw [if_pos c_12]; exact px_rfl) | (rw [if_neg c_12]; exact px_rfl))
      · refine PW.aload_n (pc := 15) dX2_lastOf_15 rfl ?_
        refine PW.getr (pc := 16) dX2_lastOf_16 fl_X2_15 (by first | assumption | rfl) (by first | assumption | rfl) ?_
        refine PW.iload_n (pc := 19) dX2_lastOf_19 rfl ?_
        refine PW.iald (pc := 20) dX2_lastOf_20 (by first | assumption | rfl) (by omega) (by omega) (by omega) ?_
        refine PW.goto (pc := 21) (tgt := 30) dX2_lastOf_21 (by decide) ?_
        exact PW.ireturn (pc := 30) dX2_lastOf_30 rfl (by first | (rw [if_pos c_12]; exact px_rfl) | (rw [if_neg c_12]; exact px_rfl))
    · omega
set_option maxRecDepth 100000 in
set_option maxHeartbeats 4000000 in
theorem c_X2_differing (d : Nat) {I : PIm} {f : Nat} (F : FlowAt Γ R f) (hr : ∀ r : Int, 0 ≤ r → r < 4 → Rg (I (f + 1) r) ∧ Rg (I (f + 2) r)) : PC sc mX2_differing d 0 0 [.inr (some f)] Γ I R (px (some (.inl (bsum (fun r => decide (I (f + 1) r ≠ I (f + 2) r)) 4))) Γ I R) := by
  obtain ⟨f0, f1, f2, f3, f4, f5, f6, f7, f8, f9, f10, f11, f12⟩ := id F
  have loop : ∀ (N k : Nat), 4 - k = N → k ≤ 4 → PW sc mX2_differing d 0 0 (px (some (.inl (bsum (fun r => decide (I (f + 1) r ≠ I (f + 2) r)) 4))) Γ I R) 4 [some (.inr (some f)), some (.inl (bsum (fun r => decide (I (f + 1) r ≠ I (f + 2) r)) k)), some (.inl (k : Int))] [] Γ I R := by
    intro N
    induction N using Nat.strongRecOn with
    | _ N ih =>
      intro k hN hk
      by_cases h4 : k < 4
      · obtain ⟨r1, r2⟩ := hr (k : Int) (by omega) (by omega)
        have ob := or_bsum (fun r => decide (I (f + 1) r ≠ I (f + 2) r)) (k := k) (by omega)
        by_cases he : I (f + 1) (k : Int) = I (f + 2) (k : Int)
        · rw [if_neg (by simp [he])] at ob
          refine PW.iload_n (pc := 4) dX2_differing_4 rfl ?_
          refine PW.iconst (pc := 5) dX2_differing_5 ?_
          refine PW.icmp_ge (pc := 6) (tgt := 36) dX2_differing_6 (by decide) (by first | omega | exact rg_of _) (by first | omega | exact rg_of _) (fun c_6 => ?_) (fun c_6 => ?_)
          · omega
          · refine PW.aload_n (pc := 9) dX2_differing_9 rfl ?_
            refine PW.getr (pc := 10) dX2_differing_10 fl_X2_9 (by first | assumption | rfl) (by first | assumption | rfl) ?_
            refine PW.iload_n (pc := 13) dX2_differing_13 rfl ?_
            refine PW.iald (pc := 14) dX2_differing_14 (by first | assumption | rfl) (by omega) (by omega) (by omega) ?_
            refine PW.aload_n (pc := 15) dX2_differing_15 rfl ?_
            refine PW.getr (pc := 16) dX2_differing_16 fl_X2_15 (by first | assumption | rfl) (by first | assumption | rfl) ?_
            refine PW.iload_n (pc := 19) dX2_differing_19 rfl ?_
            refine PW.iald (pc := 20) dX2_differing_20 (by first | assumption | rfl) (by omega) (by omega) (by omega) ?_
            refine PW.icmp_eq (pc := 21) (tgt := 30) dX2_differing_21 (by decide) (by first | omega | exact rg_of _) (by first | omega | exact rg_of _) (fun c_21 => ?_) (fun c_21 => ?_)
            · refine PW.iinc (pc := 30) dX2_differing_30 rfl (by decide) ?_
              refine PW.goto (pc := 33) (tgt := 4) dX2_differing_33 (by decide) ?_
              rw [ob]; exact ih (4 - (k + 1)) (by omega) (k + 1) rfl (by omega)
            · exact absurd he c_21
        · rw [if_pos (by simp [he])] at ob
          refine PW.iload_n (pc := 4) dX2_differing_4 rfl ?_
          refine PW.iconst (pc := 5) dX2_differing_5 ?_
          refine PW.icmp_ge (pc := 6) (tgt := 36) dX2_differing_6 (by decide) (by first | omega | exact rg_of _) (by first | omega | exact rg_of _) (fun c_6 => ?_) (fun c_6 => ?_)
          · omega
          · refine PW.aload_n (pc := 9) dX2_differing_9 rfl ?_
            refine PW.getr (pc := 10) dX2_differing_10 fl_X2_9 (by first | assumption | rfl) (by first | assumption | rfl) ?_
            refine PW.iload_n (pc := 13) dX2_differing_13 rfl ?_
            refine PW.iald (pc := 14) dX2_differing_14 (by first | assumption | rfl) (by omega) (by omega) (by omega) ?_
            refine PW.aload_n (pc := 15) dX2_differing_15 rfl ?_
            refine PW.getr (pc := 16) dX2_differing_16 fl_X2_15 (by first | assumption | rfl) (by first | assumption | rfl) ?_
            refine PW.iload_n (pc := 19) dX2_differing_19 rfl ?_
            refine PW.iald (pc := 20) dX2_differing_20 (by first | assumption | rfl) (by omega) (by omega) (by omega) ?_
            refine PW.icmp_eq (pc := 21) (tgt := 30) dX2_differing_21 (by decide) (by first | omega | exact rg_of _) (by first | omega | exact rg_of _) (fun c_21 => ?_) (fun c_21 => ?_)
            · exact absurd c_21 he
            · refine PW.iload_n (pc := 24) dX2_differing_24 rfl ?_
              refine PW.iconst (pc := 25) dX2_differing_25 ?_
              refine PW.iload_n (pc := 26) dX2_differing_26 rfl ?_
              refine PW.ishl (pc := 27) dX2_differing_27 ?_
              refine PW.ior (pc := 28) dX2_differing_28 ?_
              rw [ob]
              refine PW.istore_n (pc := 29) dX2_differing_29 (by decide) ?_
              refine PW.iinc (pc := 30) dX2_differing_30 rfl (by decide) ?_
              refine PW.goto (pc := 33) (tgt := 4) dX2_differing_33 (by decide) ?_
              exact ih (4 - (k + 1)) (by omega) (k + 1) rfl (by omega)
      · obtain rfl : k = 4 := by omega
        refine PW.iload_n (pc := 4) dX2_differing_4 rfl ?_
        refine PW.iconst (pc := 5) dX2_differing_5 ?_
        refine PW.icmp_ge (pc := 6) (tgt := 36) dX2_differing_6 (by decide) (by first | omega | exact rg_of _) (by first | omega | exact rg_of _) (fun c_6 => ?_) (fun c_6 => ?_)
        · refine PW.iload_n (pc := 36) dX2_differing_36 rfl ?_
          exact PW.ireturn (pc := 37) dX2_differing_37 rfl (px_rfl)
        · omega
  refine PC.ofPW (by decide) (Nat.le_of_ble_eq_true rfl) ?_
  refine PW.iconst (pc := 0) dX2_differing_0 ?_
  refine PW.istore_n (pc := 1) dX2_differing_1 (by decide) ?_
  refine PW.iconst (pc := 2) dX2_differing_2 ?_
  refine PW.istore_n (pc := 3) dX2_differing_3 (by decide) ?_
  exact loop 4 0 rfl (by omega)
/-! Told: 0 terms, 1 program, 2 first, 3 second, 4 alike, 5 facts -/
def ToldAt (Γ : List PTy) (R : PRm) (t : Nat) : Prop := Γ[t]? = some (.inl 9) ∧ R t 0 = some (t + 1) ∧ R t 1 = some (t + 7) ∧ R t 2 = some (t + 9) ∧ R t 3 = some (t + 10) ∧ R t 4 = some (t + 11) ∧ Γ[t + 9]? = some (.inr (0, 6)) ∧ Γ[t + 10]? = some (.inr (0, 6)) ∧ Γ[t + 11]? = some (.inr (1, 6)) ∧ TermsAt Γ R (t + 1) 116 ∧ ProgAt Γ R (t + 7)
set_option maxRecDepth 100000 in
set_option maxHeartbeats 4000000 in
theorem c_X9_has (d : Nat) {I : PIm} {t : Nat} {x : Int} (T : ToldAt Γ R t) (hx : Rg x) (hf : 0 ≤ I t 5 ∧ I t 5 ≤ 6) : PC sc mX9_has d 0 0 [.inr (some t), .inl x] Γ I R (px (some (.inl (bi (0 ≤ x ∧ x < I t 5)))) Γ I R) := by
  have t0 := T.1
  refine PC.ofPW (by decide) (Nat.le_of_ble_eq_true rfl) ?_
  refine PW.iload_n (pc := 0) dX9_has_0 rfl ?_
  refine PW.if_lt (pc := 1) (tgt := 22) dX9_has_1 (by decide) (by first | omega | exact rg_of _) (fun c_1 => ?_) (fun c_1 => ?_)
  · refine PW.iconst (pc := 22) dX9_has_22 ?_
    exact PW.zreturn (pc := 23) dX9_has_23 rfl (by first | exact Or.inl rfl | exact Or.inr rfl | omega) (by first | exact pxb_pos (by omega) | exact pxb_neg (by omega) | omega)
  · refine PW.iload_n (pc := 4) dX9_has_4 rfl ?_
    refine PW.aload_n (pc := 5) dX9_has_5 rfl ?_
    refine PW.geti (pc := 6) dX9_has_6 fl_X9_42 (by decide) (by first | assumption | rfl) ?_
    refine PW.icmp_ge (pc := 9) (tgt := 22) dX9_has_9 (by decide) (by first | omega | exact rg_of _) (by first | omega | exact rg_of _) (fun c_9 => ?_) (fun c_9 => ?_)
    · refine PW.iconst (pc := 22) dX9_has_22 ?_
      exact PW.zreturn (pc := 23) dX9_has_23 rfl (by first | exact Or.inl rfl | exact Or.inr rfl | omega) (by first | exact pxb_pos (by omega) | exact pxb_neg (by omega) | omega)
    · refine PW.iload_n (pc := 12) dX9_has_12 rfl ?_
      refine PW.bipush (pc := 13) dX9_has_13 (by decide) ?_
      refine PW.icmp_ge (pc := 15) (tgt := 22) dX9_has_15 (by decide) (by first | omega | exact rg_of _) (by first | omega | exact rg_of _) (fun c_15 => ?_) (fun c_15 => ?_)
      · refine PW.iconst (pc := 22) dX9_has_22 ?_
        exact PW.zreturn (pc := 23) dX9_has_23 rfl (by first | exact Or.inl rfl | exact Or.inr rfl | omega) (by first | exact pxb_pos (by omega) | exact pxb_neg (by omega) | omega)
      · refine PW.iconst (pc := 18) dX9_has_18 ?_
        refine PW.goto (pc := 19) (tgt := 23) dX9_has_19 (by decide) ?_
        exact PW.zreturn (pc := 23) dX9_has_23 rfl (by first | exact Or.inl rfl | exact Or.inr rfl | omega) (by first | exact pxb_pos (by omega) | exact pxb_neg (by omega) | omega)
set_option maxRecDepth 100000 in
set_option maxHeartbeats 4000000 in
theorem c_X9_firstOf (d : Nat) {I : PIm} {t : Nat} {x : Int} (T : ToldAt Γ R t) (hx : 0 ≤ x ∧ x < I t 5) (hf : 0 ≤ I t 5 ∧ I t 5 ≤ 6) : PC sc mX9_firstOf (d + 1) 0 0 [.inr (some t), .inl x] Γ I R (px (some (.inl (I (t + 9) x))) Γ I R) := by
  obtain ⟨t0, t1, t2, t3, t4, t5, t6, t7, t8, t9, t10⟩ := id T
  refine PC.ofPW (by decide) (Nat.le_of_ble_eq_true rfl) ?_
  refine PW.aload_n (pc := 0) dX9_firstOf_0 rfl ?_
  refine PW.iload_n (pc := 1) dX9_firstOf_1 rfl ?_
  refine PW.invV0x (pc := 2) dX9_firstOf_2 mv_X9_46 (c_X9_has d T (by omega) hf) (by first | assumption | rfl) rfl rfl (Nat.le_of_ble_eq_true rfl) ?_
  refine PW.if_eq (pc := 5) (tgt := 17) dX9_firstOf_5 (by decide) (rg_bi _) (fun c_5 => ?_) (fun c_5 => ?_)
  · exact absurd hx (bi0 c_5)
  · refine PW.aload_n (pc := 8) dX9_firstOf_8 rfl ?_
    refine PW.getr (pc := 9) dX9_firstOf_9 fl_X9_27 (by first | assumption | rfl) (by first | assumption | rfl) ?_
    refine PW.iload_n (pc := 12) dX9_firstOf_12 rfl ?_
    refine PW.iald (pc := 13) dX9_firstOf_13 (by first | assumption | rfl) (by omega) (by omega) (by omega) ?_
    refine PW.goto (pc := 14) (tgt := 18) dX9_firstOf_14 (by decide) ?_
    exact PW.ireturn (pc := 18) dX9_firstOf_18 rfl (px_rfl)
set_option maxRecDepth 100000 in
set_option maxHeartbeats 4000000 in
theorem c_X9_secondOf (d : Nat) {I : PIm} {t : Nat} {x : Int} (T : ToldAt Γ R t) (hx : 0 ≤ x ∧ x < I t 5) (hf : 0 ≤ I t 5 ∧ I t 5 ≤ 6) : PC sc mX9_secondOf (d + 1) 0 0 [.inr (some t), .inl x] Γ I R (px (some (.inl (I (t + 10) x))) Γ I R) := by
  obtain ⟨t0, t1, t2, t3, t4, t5, t6, t7, t8, t9, t10⟩ := id T
  refine PC.ofPW (by decide) (Nat.le_of_ble_eq_true rfl) ?_
  refine PW.aload_n (pc := 0) dX9_secondOf_0 rfl ?_
  refine PW.iload_n (pc := 1) dX9_secondOf_1 rfl ?_
  refine PW.invV0x (pc := 2) dX9_secondOf_2 mv_X9_46 (c_X9_has d T (by omega) hf) (by first | assumption | rfl) rfl rfl (Nat.le_of_ble_eq_true rfl) ?_
  refine PW.if_eq (pc := 5) (tgt := 17) dX9_secondOf_5 (by decide) (rg_bi _) (fun c_5 => ?_) (fun c_5 => ?_)
  · exact absurd hx (bi0 c_5)
  · refine PW.aload_n (pc := 8) dX9_secondOf_8 rfl ?_
    refine PW.getr (pc := 9) dX9_secondOf_9 fl_X9_31 (by first | assumption | rfl) (by first | assumption | rfl) ?_
    refine PW.iload_n (pc := 12) dX9_secondOf_12 rfl ?_
    refine PW.iald (pc := 13) dX9_secondOf_13 (by first | assumption | rfl) (by omega) (by omega) (by omega) ?_
    refine PW.goto (pc := 14) (tgt := 18) dX9_secondOf_14 (by decide) ?_
    exact PW.ireturn (pc := 18) dX9_secondOf_18 rfl (px_rfl)
set_option maxRecDepth 100000 in
set_option maxHeartbeats 4000000 in
theorem c_X9_forgetAll (d : Nat) {I : PIm} {t : Nat} (T : ToldAt Γ R t) : PC sc mX9_forgetAll (d + 1) 0 0 [.inr (some t)] Γ I R (px none Γ (pw_up (pw_up (pw_up (pw_up I (t + 1) 5 4) (t + 1) 6 4) (t + 7) 1 0) t 5 0) R) := by
  obtain ⟨t0, t1, t2, t3, t4, t5, t6, t7, t8, t9, t10⟩ := id T
  have t9' := t9.1
  have t10' := t10.1
  refine PC.ofPW (by decide) (Nat.le_of_ble_eq_true rfl) ?_
  refine PW.aload_n (pc := 0) dX9_forgetAll_0 rfl ?_
  refine PW.getr (pc := 1) dX9_forgetAll_1 fl_X9_14 (by first | assumption | rfl) (by first | assumption | rfl) ?_
  refine PW.invV0x (pc := 4) dX9_forgetAll_4 mv_X9_38 (c_X8_forgetAll d t9') (by first | assumption | rfl) rfl rfl (Nat.le_of_ble_eq_true rfl) ?_
  refine PW.aload_n (pc := 7) dX9_forgetAll_7 rfl ?_
  refine PW.getr (pc := 8) dX9_forgetAll_8 fl_X9_23 (by first | assumption | rfl) (by first | assumption | rfl) ?_
  refine PW.invV0x (pc := 11) dX9_forgetAll_11 mv_X9_41 (c_X5_forgetAll d t10') (by first | assumption | rfl) rfl rfl (Nat.le_of_ble_eq_true rfl) ?_
  refine PW.aload_n (pc := 14) dX9_forgetAll_14 rfl ?_
  refine PW.iconst (pc := 15) dX9_forgetAll_15 ?_
  refine PW.puti (pc := 16) dX9_forgetAll_16 fl_X9_42 (by first | assumption | rfl) ?_
  exact PW.vreturn (pc := 19) dX9_forgetAll_19 rfl (px_rfl)
set_option maxRecDepth 100000 in
set_option maxHeartbeats 4000000 in
theorem c_X9_addFact (d : Nat) {I : PIm} {t : Nat} {e a b : Int} (T : ToldAt Γ R t) (hf : 0 ≤ I t 5 ∧ I t 5 < 6) (he : e = 0 ∨ e = 1) : PC sc mX9_addFact d 0 0 [.inr (some t), .inl e, .inl a, .inl b] Γ I R (px none Γ (pw_up (pw_up (pw_up (pw_up I (t + 11) (I t 5) e) (t + 9) (I t 5) a) (t + 10) (I t 5) b) t 5 (I t 5 + 1)) R) := by
  obtain ⟨t0, t1, t2, t3, t4, t5, t6, t7, t8, t9, t10⟩ := id T
  refine PC.ofPW (by decide) (Nat.le_of_ble_eq_true rfl) ?_
  have e1 : pw_up I (t + 11) (I t 5) e t 5 = I t 5 := pw_up_other (by omega)
  have e2 : pw_up (pw_up I (t + 11) (I t 5) e) (t + 9) (I t 5) a t 5 = I t 5 := by rw [pw_up_other (by omega), e1]
  have e3 : pw_up (pw_up (pw_up I (t + 11) (I t 5) e) (t + 9) (I t 5) a) (t + 10) (I t 5) b t 5 = I t 5 := by rw [pw_up_other (by omega), e2]
  refine PW.aload_n (pc := 0) dX9_addFact_0 rfl ?_
  refine PW.geti (pc := 1) dX9_addFact_1 fl_X9_42 (by decide) (by first | assumption | rfl) ?_
  refine PW.if_lt (pc := 4) (tgt := 56) dX9_addFact_4 (by decide) (by first | omega | exact rg_of _) (fun c_4 => ?_) (fun c_4 => ?_)
  · omega
  · refine PW.aload_n (pc := 7) dX9_addFact_7 rfl ?_
    refine PW.geti (pc := 8) dX9_addFact_8 fl_X9_42 (by decide) (by first | assumption | rfl) ?_
    refine PW.bipush (pc := 11) dX9_addFact_11 (by decide) ?_
    refine PW.icmp_ge (pc := 13) (tgt := 56) dX9_addFact_13 (by decide) (by first | omega | exact rg_of _) (by first | omega | exact rg_of _) (fun c_13 => ?_) (fun c_13 => ?_)
    · omega
    · refine PW.aload_n (pc := 16) dX9_addFact_16 rfl ?_
      refine PW.getr (pc := 17) dX9_addFact_17 fl_X9_34 (by first | assumption | rfl) (by first | assumption | rfl) ?_
      refine PW.aload_n (pc := 20) dX9_addFact_20 rfl ?_
      refine PW.geti (pc := 21) dX9_addFact_21 fl_X9_42 (by decide) (by first | assumption | rfl) ?_
      refine PW.iload_n (pc := 24) dX9_addFact_24 rfl ?_
      refine PW.zast (pc := 25) dX9_addFact_25 (by first | assumption | rfl) (by omega) (by omega) (by omega) (by first | exact Or.inl rfl | exact Or.inr rfl | omega) ?_
      refine PW.aload_n (pc := 26) dX9_addFact_26 rfl ?_
      refine PW.getr (pc := 27) dX9_addFact_27 fl_X9_27 (by first | assumption | rfl) (by first | assumption | rfl) ?_
      refine PW.aload_n (pc := 30) dX9_addFact_30 rfl ?_
      refine PW.geti (pc := 31) dX9_addFact_31 fl_X9_42 (by decide) (by first | assumption | rfl) ?_
      rw [e1]
      refine PW.iload_n (pc := 34) dX9_addFact_34 rfl ?_
      refine PW.iast (pc := 35) dX9_addFact_35 (by first | assumption | rfl) (by omega) (by omega) (by omega) ?_
      refine PW.aload_n (pc := 36) dX9_addFact_36 rfl ?_
      refine PW.getr (pc := 37) dX9_addFact_37 fl_X9_31 (by first | assumption | rfl) (by first | assumption | rfl) ?_
      refine PW.aload_n (pc := 40) dX9_addFact_40 rfl ?_
      refine PW.geti (pc := 41) dX9_addFact_41 fl_X9_42 (by decide) (by first | assumption | rfl) ?_
      rw [e2]
      refine PW.iload_n (pc := 44) dX9_addFact_44 rfl ?_
      refine PW.iast (pc := 45) dX9_addFact_45 (by first | assumption | rfl) (by omega) (by omega) (by omega) ?_
      refine PW.aload_n (pc := 46) dX9_addFact_46 rfl ?_
      refine PW.dup (pc := 47) dX9_addFact_47 ?_
      refine PW.geti (pc := 48) dX9_addFact_48 fl_X9_42 (by decide) (by first | assumption | rfl) ?_
      rw [e3]
      refine PW.iconst (pc := 51) dX9_addFact_51 ?_
      refine PW.iadd (pc := 52) dX9_addFact_52 ?_
      refine PW.puti (pc := 53) dX9_addFact_53 fl_X9_42 (by first | assumption | rfl) ?_
      exact PW.vreturn (pc := 56) dX9_addFact_56 rfl (px_rfl)
/-! Setting: 0 program, 1 pipe, 2 factsIn -/
def SetAt (Γ : List PTy) (R : PRm) (s : Nat) : Prop := Γ[s]? = some (.inl 7) ∧ R s 0 = some (s + 1) ∧ R s 1 = some (s + 3) ∧ Γ[s + 3]? = some (.inl 4) ∧ ProgAt Γ R (s + 1)
end FLOWREST
