section PIPED
variable {sc : PSc} {Γ : List PTy} {R : PRm}
set_option maxRecDepth 100000 in
set_option maxHeartbeats 4000000 in
theorem pxb_pos {I : PIm} {p : Prop} [Decidable p] (h : p) : px (some (.inl (bi p))) Γ I R (some (.inl 1)) Γ I R := by rw [bi_pos h]; exact px_rfl
set_option maxRecDepth 100000 in
set_option maxHeartbeats 4000000 in
theorem pxb_neg {I : PIm} {p : Prop} [Decidable p] (h : ¬ p) : px (some (.inl (bi p))) Γ I R (some (.inl 0)) Γ I R := by rw [bi_neg h]; exact px_rfl
/-- PIPED, k instructions through -/
def FlowQ (I0 I : PIm) (h f : Nat) (tb0 tb : Int → Tm) (P : Int → Int) (lag fw w : Int) (k : Nat) : Prop :=
  GrowS I0 I h tb0 tb (fun t => ∃ j : Int, 0 ≤ j ∧ j < k ∧ kd (P j) ≠ 0 ∧ t = piM P lag fw w j) ∧ I h 5 ≤ I0 h 5 + k ∧ (∀ q z, ¬ (h ≤ q ∧ q ≤ h + 5) → ¬ (f + 2 ≤ q ∧ q ≤ f + 6) → I q z = I0 q z) ∧
  (∀ j : Int, 0 ≤ j → j < k → I (f + 4) j = St P lag fw w j ∧ I (f + 5) j = (if kd (P j) = 0 then -1 else dd (P j)) ∧ (kd (P j) ≠ 0 → 0 ≤ I (f + 6) j ∧ I (f + 6) j < I h 5 ∧ tb (I (f + 6) j) = piM P lag fw w j)) ∧
  ∀ r, 0 ≤ r → r < 4 → I (f + 3) r = lat P k r ∧ 0 ≤ I (f + 2) r ∧ I (f + 2) r < I h 5 ∧ tb (I (f + 2) r) = piT P lag fw w k r
set_option maxRecDepth 100000 in
set_option maxHeartbeats 4000000 in
theorem piM_eq (P : Int → Int) (lag fw w : Int) (k : Nat) : piM P lag fw w (k : Int) = mkT (kd (P (k : Int))) (rdT P (piM P lag fw w) (Vp P lag fw w (k : Int)) k (ss (P (k : Int)))) (rdT P (piM P lag fw w) (Vp P lag fw w (k : Int)) k (tt (P (k : Int)))) := Md_eq P _ k
set_option maxRecDepth 100000 in
set_option maxHeartbeats 4000000 in
theorem FlowQ.stay {I0 I : PIm} {h f : Nat} {tb0 tb : Int → Tm} {P : Int → Int} {lag fw w : Int} {k : Nat} (F : FlowQ I0 I h f tb0 tb P lag fw w k) (hk : kd (P (k : Int)) = 0) (hdj : f + 6 < h ∨ h + 5 < f) : FlowQ I0 (pw_up (pw_up I (f + 4) k (St P lag fw w k)) (f + 5) k (-1)) h f tb0 tb P lag fw w (k + 1) := by
  obtain ⟨f1, f2, f3, f4, f5⟩ := F
  have e : ∀ q, h ≤ q → q ≤ h + 5 → ∀ z, pw_up (pw_up I (f + 4) k (St P lag fw w k)) (f + 5) k (-1) q z = I q z := fun q h0 h1 z => by rw [pw_up_other (by omega), pw_up_other (by omega)]
  have e5 := e h (by omega) (by omega) 5
  refine ⟨(f1.sub (mks_stay hk)).congr e, by rw [e5]; omega, fun q z h0 h1 => by rw [pw_up_other (by omega), pw_up_other (by omega), f3 q z h0 h1], fun j j0 j1 => ?_, fun r r0 r1 => ?_⟩
  · rw [e5]
    by_cases q : j = (k : Int)
    · subst q
      refine ⟨by rw [pw_up_other (by omega), pw_up_self], by rw [pw_up_self, if_pos hk], fun w => absurd hk w⟩
    · obtain ⟨a, b, c⟩ := f4 j j0 (by omega)
      refine ⟨by rw [pw_up_other (by omega), pw_up_other (by omega), a], by rw [pw_up_other (by omega), pw_up_other (by omega), b], fun w => ?_⟩
      rw [pw_up_other (by omega), pw_up_other (by omega)]
      exact c w
  · rw [e5, pw_up_other (by omega), pw_up_other (by omega), pw_up_other (by omega), pw_up_other (by omega)]
    obtain ⟨a, b, c, d⟩ := f5 r r0 r1
    refine ⟨?_, b, c, ?_⟩
    · rw [a, lat, if_neg (fun w => w.1 hk)]
    · rw [d]
      unfold piT
      rw [rdT, if_neg (fun w => w.1.1 hk)]
set_option maxRecDepth 100000 in
set_option maxHeartbeats 4000000 in
theorem FlowQ.made {I0 I I' : PIm} {h f : Nat} {tb0 tb tb' : Int → Tm} {P : Int → Int} {lag fw w : Int} {k : Nat} {i : Int} (F : FlowQ I0 I h f tb0 tb P lag fw w k) (hk : kd (P (k : Int)) ≠ 0) (M : Made (pw_up (pw_up I (f + 4) k (St P lag fw w k)) (f + 5) k (-1)) I' h tb tb' (piM P lag fw w (k : Int)) i) (hdj : f + 6 < h ∨ h + 5 < f) :
    FlowQ I0 (pw_up (pw_up (pw_up (pw_up I' (f + 6) k i) (f + 5) k (dd (P (k : Int)))) (f + 3) (dd (P (k : Int))) k) (f + 2) (dd (P (k : Int))) i) h f tb0 tb' P lag fw w (k + 1) := by
  obtain ⟨f1, f2, f3, f4, f5⟩ := F
  have e1 : ∀ q, h ≤ q → q ≤ h + 5 → ∀ z, pw_up (pw_up I (f + 4) k (St P lag fw w k)) (f + 5) k (-1) q z = I q z := fun q h0 h1 z => by rw [pw_up_other (by omega), pw_up_other (by omega)]
  have G := (f1.congr e1).made M (mks_step hk)
  obtain ⟨m1, m2, m3, m4, m5, m6, m7, m8⟩ := M
  rw [e1 h (by omega) (by omega) 5] at m4 m5 m6
  have hd := dd_rg (P (k : Int))
  have e : ∀ q, h ≤ q → q ≤ h + 5 → ∀ z, (pw_up (pw_up (pw_up (pw_up I' (f + 6) k i) (f + 5) k (dd (P (k : Int)))) (f + 3) (dd (P (k : Int))) k) (f + 2) (dd (P (k : Int))) i) q z = I' q z := fun q h0 h1 z => by rw [pw_up_other (by omega), pw_up_other (by omega), pw_up_other (by omega), pw_up_other (by omega)]
  have e5 := e h (by omega) (by omega) 5
  refine ⟨G.congr e, by rw [e5]; omega, fun q z h0 h1 => by rw [pw_up_other (by omega), pw_up_other (by omega), pw_up_other (by omega), pw_up_other (by omega), m7 q z h0, pw_up_other (by omega), pw_up_other (by omega), f3 q z h0 h1], fun j j0 j1 => ?_, fun r r0 r1 => ?_⟩
  · rw [e5]
    by_cases q : j = (k : Int)
    · subst q
      refine ⟨by rw [pw_up_other (by omega), pw_up_other (by omega), pw_up_other (by omega), pw_up_other (by omega), m7 _ _ (by omega), pw_up_other (by omega), pw_up_self], by rw [pw_up_other (by omega), pw_up_other (by omega), pw_up_self, if_neg hk], fun _ => ?_⟩
      rw [pw_up_other (by omega), pw_up_other (by omega), pw_up_other (by omega), pw_up_self]
      exact ⟨m1.1, m1.2, m2⟩
    · obtain ⟨a, b, c⟩ := f4 j j0 (by omega)
      refine ⟨by rw [pw_up_other (by omega), pw_up_other (by omega), pw_up_other (by omega), pw_up_other (by omega), m7 _ _ (by omega), pw_up_other (by omega), pw_up_other (by omega), a], by rw [pw_up_other (by omega), pw_up_other (by omega), pw_up_other (by omega), pw_up_other (by omega), m7 _ _ (by omega), pw_up_other (by omega), pw_up_other (by omega), b], fun w => ?_⟩
      rw [pw_up_other (by omega), pw_up_other (by omega), pw_up_other (by omega), pw_up_other (by omega), m7 _ _ (by omega), pw_up_other (by omega), pw_up_other (by omega)]
      obtain ⟨c1, c2, c3⟩ := c w
      exact ⟨c1, by omega, by rw [m5 _ c2]; exact c3⟩
  · rw [e5]
    obtain ⟨a, b, c, d⟩ := f5 r r0 r1
    unfold piT at d ⊢
    rw [lat, rdT]
    by_cases q : dd (P (k : Int)) = r
    · rw [if_pos ⟨hk, q⟩, if_pos ⟨⟨hk, q⟩, rfl⟩, q, pw_up_self, pw_up_other (by omega), pw_up_self]
      exact ⟨rfl, m1.1, m1.2, m2⟩
    · rw [if_neg (fun w => q w.2), if_neg (fun w => q w.1.2), pw_up_other (by omega), pw_up_other (by omega), pw_up_other (by omega), pw_up_other (by omega), m7 _ _ (by omega), pw_up_other (by omega), pw_up_other (by omega)]
      rw [pw_up_other (by omega), pw_up_other (by omega), pw_up_other (by omega), pw_up_other (by omega), m7 _ _ (by omega), pw_up_other (by omega), pw_up_other (by omega)]
      exact ⟨a, b, by omega, by rw [m5 _ c]; exact d⟩
/-- what the reads of instruction k rest on -/
def RdOK (I : PIm) (h f : Nat) (tb : Int → Tm) (P : Int → Int) (lag fw w : Int) (k : Nat) : Prop :=
  k ≤ 6 ∧ (∀ j : Int, 0 ≤ j → j < k → I (f + 4) j = St P lag fw w j ∧ I (f + 5) j = (if kd (P j) = 0 then -1 else dd (P j)) ∧ (kd (P j) ≠ 0 → 0 ≤ I (f + 6) j ∧ I (f + 6) j < I h 5 ∧ tb (I (f + 6) j) = piM P lag fw w j)) ∧ ∀ r, 0 ≤ r → r < 4 → I (f + 3) r = lat P k r
set_option maxRecDepth 100000 in
set_option maxHeartbeats 4000000 in
theorem c_X2_showsMaker (d : Nat) {I : PIm} {f pp h : Nat} {tb : Int → Tm} {P : Int → Int} {lag fw w x r : Int} {k : Nat} (F : FlowAt Γ R f) (hp : Γ[pp]? = some (.inl 4)) (hl : I pp 0 = lag) (hf : I pp 1 = fw) (hl3 : 0 ≤ lag ∧ lag ≤ 3) (Q : RdOK I h f tb P lag fw w k) (hx : 0 ≤ x ∧ x ≤ 1000) (hr : 0 ≤ r ∧ r < 4) :
    PC sc mX2_showsMaker (d + 1) 0 0 [.inr (some f), .inl x, .inl r, .inr (some pp)] Γ I R (px (some (.inl (bi (hit P (St P lag fw w) lag fw k x r)))) Γ I R) := by
  obtain ⟨f0, f1, f2, f3, f4, f5, f6, f7, f8, f9, f10, f11, f12⟩ := id F
  obtain ⟨q0, q1, q2⟩ := id Q
  have em := q2 r hr.1 hr.2
  have hlr := lat_rg P k r
  refine PC.ofPW (by decide) (Nat.le_of_ble_eq_true rfl) ?_
  by_cases hm : lat P k r < 0
  · refine PW.iload_n (pc := 0) dX2_showsMaker_0 rfl ?_
    refine PW.if_lt (pc := 1) (tgt := 18) dX2_showsMaker_1 (by decide) (by first | omega | exact rg_of _) (fun c_1 => ?_) (fun c_1 => ?_)
    · omega
    · refine PW.iload_n (pc := 4) dX2_showsMaker_4 rfl ?_
      refine PW.iconst (pc := 5) dX2_showsMaker_5 ?_
      refine PW.icmp_ge (pc := 6) (tgt := 18) dX2_showsMaker_6 (by decide) (by first | omega | exact rg_of _) (by first | omega | exact rg_of _) (fun c_6 => ?_) (fun c_6 => ?_)
      · omega
      · refine PW.aload_n (pc := 9) dX2_showsMaker_9 rfl ?_
        refine PW.getr (pc := 10) dX2_showsMaker_10 fl_X2_18 (by first | assumption | rfl) (by first | assumption | rfl) ?_
        refine PW.iload_n (pc := 13) dX2_showsMaker_13 rfl ?_
        refine PW.iald (pc := 14) dX2_showsMaker_14 (by first | assumption | rfl) (by omega) (by omega) (by omega) ?_
        rw [em]
        refine PW.goto (pc := 15) (tgt := 19) dX2_showsMaker_15 (by decide) ?_
        refine PW.istore (pc := 19) dX2_showsMaker_19 (by decide) ?_
        refine PW.iload (pc := 21) dX2_showsMaker_21 rfl ?_
        refine PW.if_lt (pc := 23) (tgt := 49) dX2_showsMaker_23 (by decide) (by first | omega | exact rg_of _) (fun c_23 => ?_) (fun c_23 => ?_)
        · refine PW.iconst (pc := 49) dX2_showsMaker_49 ?_
          refine PW.goto (pc := 50) (tgt := 54) dX2_showsMaker_50 (by decide) ?_
          exact PW.zreturn (pc := 54) dX2_showsMaker_54 rfl (by first | exact Or.inl rfl | exact Or.inr rfl | omega) (by rw [bi_pos (Or.inl hm)]; exact px_rfl)
        · omega
  · have es := (q1 _ (by omega) hlr.2).1
    have hsr := St_rg' P lag fw w (k := lat P k r) (by omega)
    have hv := visb_01 lag fw (x - St P lag fw w (lat P k r))
    refine PW.iload_n (pc := 0) dX2_showsMaker_0 rfl ?_
    refine PW.if_lt (pc := 1) (tgt := 18) dX2_showsMaker_1 (by decide) (by first | omega | exact rg_of _) (fun c_1 => ?_) (fun c_1 => ?_)
    · omega
    · refine PW.iload_n (pc := 4) dX2_showsMaker_4 rfl ?_
      refine PW.iconst (pc := 5) dX2_showsMaker_5 ?_
      refine PW.icmp_ge (pc := 6) (tgt := 18) dX2_showsMaker_6 (by decide) (by first | omega | exact rg_of _) (by first | omega | exact rg_of _) (fun c_6 => ?_) (fun c_6 => ?_)
      · omega
      · refine PW.aload_n (pc := 9) dX2_showsMaker_9 rfl ?_
        refine PW.getr (pc := 10) dX2_showsMaker_10 fl_X2_18 (by first | assumption | rfl) (by first | assumption | rfl) ?_
        refine PW.iload_n (pc := 13) dX2_showsMaker_13 rfl ?_
        refine PW.iald (pc := 14) dX2_showsMaker_14 (by first | assumption | rfl) (by omega) (by omega) (by omega) ?_
        rw [em]
        refine PW.goto (pc := 15) (tgt := 19) dX2_showsMaker_15 (by decide) ?_
        refine PW.istore (pc := 19) dX2_showsMaker_19 (by decide) ?_
        refine PW.iload (pc := 21) dX2_showsMaker_21 rfl ?_
        refine PW.if_lt (pc := 23) (tgt := 49) dX2_showsMaker_23 (by decide) (by first | omega | exact rg_of _) (fun c_23 => ?_) (fun c_23 => ?_)
        · omega
        · refine PW.iload (pc := 26) dX2_showsMaker_26 rfl ?_
          refine PW.bipush (pc := 28) dX2_showsMaker_28 (by decide) ?_
          refine PW.icmp_ge (pc := 30) (tgt := 49) dX2_showsMaker_30 (by decide) (by first | omega | exact rg_of _) (by first | omega | exact rg_of _) (fun c_30 => ?_) (fun c_30 => ?_)
          · omega
          · refine PW.aload_n (pc := 33) dX2_showsMaker_33 rfl ?_
            refine PW.iload_n (pc := 34) dX2_showsMaker_34 rfl ?_
            refine PW.aload_n (pc := 35) dX2_showsMaker_35 rfl ?_
            refine PW.getr (pc := 36) dX2_showsMaker_36 fl_X2_21 (by first | assumption | rfl) (by first | assumption | rfl) ?_
            refine PW.iload (pc := 39) dX2_showsMaker_39 rfl ?_
            refine PW.iald (pc := 41) dX2_showsMaker_41 (by first | assumption | rfl) (by omega) (by omega) (by omega) ?_
            rw [es]
            refine PW.isub (pc := 42) dX2_showsMaker_42 ?_
            refine PW.invV0x (pc := 43) dX2_showsMaker_43 mv_X2_80 ((c_X4_shows d hp (by omega) (by omega))) (by first | assumption | rfl) rfl rfl (Nat.le_of_ble_eq_true rfl) ?_
            rw [hl, hf]
            refine PW.if_eq (pc := 46) (tgt := 53) dX2_showsMaker_46 (by decide) (by first | omega | exact rg_of _) (fun c_46 => ?_) (fun c_46 => ?_)
            · refine PW.iconst (pc := 53) dX2_showsMaker_53 ?_
              exact PW.zreturn (pc := 54) dX2_showsMaker_54 rfl (by first | exact Or.inl rfl | exact Or.inr rfl | omega) (by first | (rw [bi_neg (fun q => q.elim hm (visb_0.mp c_46))]; exact px_rfl) | (rw [bi_pos (Or.inr (visb_1.mp (by omega)))]; exact px_rfl))
            · refine PW.iconst (pc := 49) dX2_showsMaker_49 ?_
              refine PW.goto (pc := 50) (tgt := 54) dX2_showsMaker_50 (by decide) ?_
              exact PW.zreturn (pc := 54) dX2_showsMaker_54 rfl (by first | exact Or.inl rfl | exact Or.inr rfl | omega) (by first | (rw [bi_neg (fun q => q.elim hm (visb_0.mp c_46))]; exact px_rfl) | (rw [bi_pos (Or.inr (visb_1.mp (by omega)))]; exact px_rfl))
set_option maxRecDepth 100000 in
set_option maxHeartbeats 4000000 in
theorem c_X2_isReady (d : Nat) {I : PIm} {f pp h : Nat} {tb : Int → Tm} {P : Int → Int} {lag fw w x : Int} {k : Nat} (F : FlowAt Γ R f) (hp : Γ[pp]? = some (.inl 4)) (hl : I pp 0 = lag) (hf : I pp 1 = fw) (hl3 : 0 ≤ lag ∧ lag ≤ 3) (Q : RdOK I h f tb P lag fw w k) (hx : 0 ≤ x ∧ x ≤ 1000) (oc : okc (P (k : Int))) :
    PC sc mX2_isReady (d + 2) 0 0 [.inr (some f), .inl x, .inl (P (k : Int)), .inr (some pp)] Γ I R (px (some (.inl (bi (rdy P (St P lag fw w) lag fw k x)))) Γ I R) := by
  have f0 := F.1
  have hkd := kd_rg oc
  have hss := ss_rg (P (k : Int))
  have htt := tt_rg (P (k : Int))
  refine PC.ofPW (by decide) (Nat.le_of_ble_eq_true rfl) ?_
  refine PW.iload_n (pc := 0) dX2_isReady_0 rfl ?_
  refine PW.invS0x (pc := 1) dX2_isReady_1 ms_X2_39 (c_kd (d + 1) oc) rfl rfl (Nat.le_of_ble_eq_true rfl) ?_
  refine PW.istore (pc := 4) dX2_isReady_4 (by decide) ?_
  refine PW.iload (pc := 6) dX2_isReady_6 rfl ?_
  refine PW.iconst (pc := 8) dX2_isReady_8 ?_
  refine PW.icmp_lt (pc := 9) (tgt := 25) dX2_isReady_9 (by decide) (by first | omega | exact rg_of _) (by first | omega | exact rg_of _) (fun c_9 => ?_) (fun c_9 => ?_)
  · refine PW.iload (pc := 25) dX2_isReady_25 rfl ?_
    refine PW.iconst (pc := 27) dX2_isReady_27 ?_
    refine PW.icmp_lt (pc := 28) (tgt := 44) dX2_isReady_28 (by decide) (by first | omega | exact rg_of _) (by first | omega | exact rg_of _) (fun c_28 => ?_) (fun c_28 => ?_)
    · refine PW.iconst (pc := 44) dX2_isReady_44 ?_
      refine PW.goto (pc := 45) (tgt := 49) dX2_isReady_45 (by decide) ?_
      exact PW.zreturn (pc := 49) dX2_isReady_49 rfl (by first | exact Or.inl rfl | exact Or.inr rfl | omega) (by first | exact pxb_pos ⟨Or.inl (by omega), Or.inl (by omega)⟩ | exact pxb_pos ⟨Or.inr (bi1 c_22), Or.inl (by omega)⟩ | exact pxb_pos ⟨Or.inr (bi1 c_22), Or.inr (bi1 c_41)⟩ | exact pxb_neg (fun q => q.1.elim (by omega) (bi0 c_22)) | exact pxb_neg (fun q => q.2.elim (by omega) (bi0 c_41)) | omega)
    · refine PW.aload_n (pc := 31) dX2_isReady_31 rfl ?_
      refine PW.iload_n (pc := 32) dX2_isReady_32 rfl ?_
      refine PW.iload_n (pc := 33) dX2_isReady_33 rfl ?_
      refine PW.invS0x (pc := 34) dX2_isReady_34 ms_X2_46 (c_tt (d + 1) oc) rfl rfl (Nat.le_of_ble_eq_true rfl) ?_
      refine PW.aload_n (pc := 37) dX2_isReady_37 rfl ?_
      refine PW.invV0x (pc := 38) dX2_isReady_38 mv_X2_77 (c_X2_showsMaker d F hp hl hf hl3 Q hx (by omega)) (by first | assumption | rfl) rfl rfl (Nat.le_of_ble_eq_true rfl) ?_
      refine PW.if_eq (pc := 41) (tgt := 48) dX2_isReady_41 (by decide) (rg_bi _) (fun c_41 => ?_) (fun c_41 => ?_)
      · refine PW.iconst (pc := 48) dX2_isReady_48 ?_
        exact PW.zreturn (pc := 49) dX2_isReady_49 rfl (by first | exact Or.inl rfl | exact Or.inr rfl | omega) (by first | exact pxb_pos ⟨Or.inl (by omega), Or.inl (by omega)⟩ | exact pxb_pos ⟨Or.inr (bi1 c_22), Or.inl (by omega)⟩ | exact pxb_pos ⟨Or.inr (bi1 c_22), Or.inr (bi1 c_41)⟩ | exact pxb_neg (fun q => q.1.elim (by omega) (bi0 c_22)) | exact pxb_neg (fun q => q.2.elim (by omega) (bi0 c_41)) | omega)
      · refine PW.iconst (pc := 44) dX2_isReady_44 ?_
        refine PW.goto (pc := 45) (tgt := 49) dX2_isReady_45 (by decide) ?_
        exact PW.zreturn (pc := 49) dX2_isReady_49 rfl (by first | exact Or.inl rfl | exact Or.inr rfl | omega) (by first | exact pxb_pos ⟨Or.inl (by omega), Or.inl (by omega)⟩ | exact pxb_pos ⟨Or.inr (bi1 c_22), Or.inl (by omega)⟩ | exact pxb_pos ⟨Or.inr (bi1 c_22), Or.inr (bi1 c_41)⟩ | exact pxb_neg (fun q => q.1.elim (by omega) (bi0 c_22)) | exact pxb_neg (fun q => q.2.elim (by omega) (bi0 c_41)) | omega)
  · refine PW.aload_n (pc := 12) dX2_isReady_12 rfl ?_
    refine PW.iload_n (pc := 13) dX2_isReady_13 rfl ?_
    refine PW.iload_n (pc := 14) dX2_isReady_14 rfl ?_
    refine PW.invS0x (pc := 15) dX2_isReady_15 ms_X2_43 (c_ss (d + 1) oc) rfl rfl (Nat.le_of_ble_eq_true rfl) ?_
    refine PW.aload_n (pc := 18) dX2_isReady_18 rfl ?_
    refine PW.invV0x (pc := 19) dX2_isReady_19 mv_X2_77 (c_X2_showsMaker d F hp hl hf hl3 Q hx (by omega)) (by first | assumption | rfl) rfl rfl (Nat.le_of_ble_eq_true rfl) ?_
    refine PW.if_eq (pc := 22) (tgt := 48) dX2_isReady_22 (by decide) (rg_bi _) (fun c_22 => ?_) (fun c_22 => ?_)
    · refine PW.iconst (pc := 48) dX2_isReady_48 ?_
      exact PW.zreturn (pc := 49) dX2_isReady_49 rfl (by first | exact Or.inl rfl | exact Or.inr rfl | omega) (by first | exact pxb_pos ⟨Or.inl (by omega), Or.inl (by omega)⟩ | exact pxb_pos ⟨Or.inr (bi1 c_22), Or.inl (by omega)⟩ | exact pxb_pos ⟨Or.inr (bi1 c_22), Or.inr (bi1 c_41)⟩ | exact pxb_neg (fun q => q.1.elim (by omega) (bi0 c_22)) | exact pxb_neg (fun q => q.2.elim (by omega) (bi0 c_41)) | omega)
    · refine PW.iload (pc := 25) dX2_isReady_25 rfl ?_
      refine PW.iconst (pc := 27) dX2_isReady_27 ?_
      refine PW.icmp_lt (pc := 28) (tgt := 44) dX2_isReady_28 (by decide) (by first | omega | exact rg_of _) (by first | omega | exact rg_of _) (fun c_28 => ?_) (fun c_28 => ?_)
      · refine PW.iconst (pc := 44) dX2_isReady_44 ?_
        refine PW.goto (pc := 45) (tgt := 49) dX2_isReady_45 (by decide) ?_
        exact PW.zreturn (pc := 49) dX2_isReady_49 rfl (by first | exact Or.inl rfl | exact Or.inr rfl | omega) (by first | exact pxb_pos ⟨Or.inl (by omega), Or.inl (by omega)⟩ | exact pxb_pos ⟨Or.inr (bi1 c_22), Or.inl (by omega)⟩ | exact pxb_pos ⟨Or.inr (bi1 c_22), Or.inr (bi1 c_41)⟩ | exact pxb_neg (fun q => q.1.elim (by omega) (bi0 c_22)) | exact pxb_neg (fun q => q.2.elim (by omega) (bi0 c_41)) | omega)
      · refine PW.aload_n (pc := 31) dX2_isReady_31 rfl ?_
        refine PW.iload_n (pc := 32) dX2_isReady_32 rfl ?_
        refine PW.iload_n (pc := 33) dX2_isReady_33 rfl ?_
        refine PW.invS0x (pc := 34) dX2_isReady_34 ms_X2_46 (c_tt (d + 1) oc) rfl rfl (Nat.le_of_ble_eq_true rfl) ?_
        refine PW.aload_n (pc := 37) dX2_isReady_37 rfl ?_
        refine PW.invV0x (pc := 38) dX2_isReady_38 mv_X2_77 (c_X2_showsMaker d F hp hl hf hl3 Q hx (by omega)) (by first | assumption | rfl) rfl rfl (Nat.le_of_ble_eq_true rfl) ?_
        refine PW.if_eq (pc := 41) (tgt := 48) dX2_isReady_41 (by decide) (rg_bi _) (fun c_41 => ?_) (fun c_41 => ?_)
        · refine PW.iconst (pc := 48) dX2_isReady_48 ?_
          exact PW.zreturn (pc := 49) dX2_isReady_49 rfl (by first | exact Or.inl rfl | exact Or.inr rfl | omega) (by first | exact pxb_pos ⟨Or.inl (by omega), Or.inl (by omega)⟩ | exact pxb_pos ⟨Or.inr (bi1 c_22), Or.inl (by omega)⟩ | exact pxb_pos ⟨Or.inr (bi1 c_22), Or.inr (bi1 c_41)⟩ | exact pxb_neg (fun q => q.1.elim (by omega) (bi0 c_22)) | exact pxb_neg (fun q => q.2.elim (by omega) (bi0 c_41)) | omega)
        · refine PW.iconst (pc := 44) dX2_isReady_44 ?_
          refine PW.goto (pc := 45) (tgt := 49) dX2_isReady_45 (by decide) ?_
          exact PW.zreturn (pc := 49) dX2_isReady_49 rfl (by first | exact Or.inl rfl | exact Or.inr rfl | omega) (by first | exact pxb_pos ⟨Or.inl (by omega), Or.inl (by omega)⟩ | exact pxb_pos ⟨Or.inr (bi1 c_22), Or.inl (by omega)⟩ | exact pxb_pos ⟨Or.inr (bi1 c_22), Or.inr (bi1 c_41)⟩ | exact pxb_neg (fun q => q.1.elim (by omega) (bi0 c_22)) | exact pxb_neg (fun q => q.2.elim (by omega) (bi0 c_41)) | omega)
set_option maxRecDepth 100000 in
set_option maxHeartbeats 4000000 in
theorem wt_is {P S : Int → Int} {lag fw : Int} {k : Nat} {f i : Int} (h0 : 0 ≤ i) (h3 : i ≤ 3) (hn : ∀ i', 0 ≤ i' → i' < i → ¬ rdy P S lag fw k (f + i')) (hy : i = 3 ∨ rdy P S lag fw k (f + i)) : wt P S lag fw k f = i := by
  unfold wt
  by_cases q0 : i = 0
  · subst q0
    rcases hy with h | h
    · omega
    · rw [if_pos (by rwa [Int.add_zero] at h)]
  · have n0 := hn 0 (by omega) (by omega)
    rw [Int.add_zero] at n0
    rw [if_neg n0]
    by_cases q1 : i = 1
    · subst q1
      rcases hy with h | h
      · omega
      · rw [if_pos h]
    · rw [if_neg (hn 1 (by omega) (by omega))]
      by_cases q2 : i = 2
      · subst q2
        rcases hy with h | h
        · omega
        · rw [if_pos h]
      · rw [if_neg (hn 2 (by omega) (by omega))]
        omega
set_option maxRecDepth 100000 in
set_option maxHeartbeats 4000000 in
theorem c_X2_waitFrom (d : Nat) {I : PIm} {f pp h : Nat} {tb : Int → Tm} {P : Int → Int} {lag fw w x : Int} {k : Nat} (F : FlowAt Γ R f) (hp : Γ[pp]? = some (.inl 4)) (hl : I pp 0 = lag) (hf : I pp 1 = fw) (hl3 : 0 ≤ lag ∧ lag ≤ 3) (Q : RdOK I h f tb P lag fw w k) (hx : 0 ≤ x ∧ x ≤ 900) (oc : okc (P (k : Int))) :
    PC sc mX2_waitFrom (d + 3) 0 0 [.inr (some f), .inl x, .inl (P (k : Int)), .inr (some pp)] Γ I R (px (some (.inl (x + wt P (St P lag fw w) lag fw k x))) Γ I R) := by
  have f0 := F.1
  have loop : ∀ (N : Nat) (i : Int), (3 - i).toNat = N → 0 ≤ i → i ≤ 3 → (∀ i', 0 ≤ i' → i' < i → ¬ rdy P (St P lag fw w) lag fw k (x + i')) → PW sc mX2_waitFrom (d + 3) 0 0 (px (some (.inl (x + wt P (St P lag fw w) lag fw k x))) Γ I R) 3 [some (.inr (some f)), some (.inl x), some (.inl (P (k : Int))), some (.inr (some pp)), some (.inl (x + i))] [] Γ I R := by
    intro N
    induction N using Nat.strongRecOn with
    | _ N ih =>
      intro i hN i0 i3 hno
      refine PW.iload (pc := 3) dX2_waitFrom_3 rfl ?_
      refine PW.iload_n (pc := 5) dX2_waitFrom_5 rfl ?_
      refine PW.iconst (pc := 6) dX2_waitFrom_6 ?_
      refine PW.iadd (pc := 7) dX2_waitFrom_7 ?_
      refine PW.icmp_ge (pc := 8) (tgt := 28) dX2_waitFrom_8 (by decide) (by first | omega | exact rg_of _) (by first | omega | exact rg_of _) (fun c_8 => ?_) (fun c_8 => ?_)
      · refine PW.iload (pc := 28) dX2_waitFrom_28 rfl ?_
        exact PW.ireturn (pc := 30) dX2_waitFrom_30 rfl (by first | (rw [wt_is i0 i3 hno (Or.inl (by omega))]; exact px_rfl) | (rw [wt_is i0 i3 hno (Or.inr (bi1 c_19))]; exact px_rfl))
      · refine PW.aload_n (pc := 11) dX2_waitFrom_11 rfl ?_
        refine PW.iload (pc := 12) dX2_waitFrom_12 rfl ?_
        refine PW.iload_n (pc := 14) dX2_waitFrom_14 rfl ?_
        refine PW.aload_n (pc := 15) dX2_waitFrom_15 rfl ?_
        refine PW.invV0x (pc := 16) dX2_waitFrom_16 mv_X2_73 (c_X2_isReady d F hp hl hf hl3 Q (by omega) oc) (by first | assumption | rfl) rfl rfl (Nat.le_of_ble_eq_true rfl) ?_
        refine PW.if_ne (pc := 19) (tgt := 28) dX2_waitFrom_19 (by decide) (rg_bi _) (fun c_19 => ?_) (fun c_19 => ?_)
        · refine PW.iload (pc := 28) dX2_waitFrom_28 rfl ?_
          exact PW.ireturn (pc := 30) dX2_waitFrom_30 rfl (by first | (rw [wt_is i0 i3 hno (Or.inl (by omega))]; exact px_rfl) | (rw [wt_is i0 i3 hno (Or.inr (bi1 c_19))]; exact px_rfl))
        · refine PW.iinc (pc := 22) dX2_waitFrom_22 rfl (by decide) ?_
          refine PW.goto (pc := 25) (tgt := 3) dX2_waitFrom_25 (by decide) ?_
          rw [Int.add_assoc]; exact ih _ (by omega) (i + 1) rfl (by omega) (by omega) (fun i' q0 q1 => by by_cases q : i' = i; (· rw [q]; exact bi0 c_19); (· exact hno i' q0 (by omega)))
  refine PC.ofPW (by decide) (Nat.le_of_ble_eq_true rfl) ?_
  refine PW.iload_n (pc := 0) dX2_waitFrom_0 rfl ?_
  refine PW.istore (pc := 1) dX2_waitFrom_1 (by decide) ?_
  have := loop _ 0 rfl (by omega) (by omega) (fun i' q0 q1 => by omega); rw [Int.add_zero] at this; exact this
set_option maxRecDepth 100000 in
set_option maxHeartbeats 4000000 in
theorem c_X2_readBy (d : Nat) {I : PIm} {f pp h N : Nat} {tb : Int → Tm} {P : Int → Int} {lag fw w r : Int} {k : Nat} (F : FlowAt Γ R f) (hp : Γ[pp]? = some (.inl 4)) (hl : I pp 0 = lag) (hf : I pp 1 = fw) (hl3 : 0 ≤ lag ∧ lag ≤ 3) (Q : RdOK I h f tb P lag fw w k) (hk : k < 6) (hs : I (f + 4) k = St P lag fw w k) (TB : Tab I h (I h 5) tb) (hr : 0 ≤ r ∧ r < 4) :
    PC sc mX2_readBy (d + 1) 0 0 [.inr (some f), .inl (k : Int), .inl r, .inr (some pp)] Γ I R (fun v Γ' I' R' => Γ' = Γ ∧ I' = I ∧ R' = R ∧ ∃ i, v = some (.inl i) ∧ 0 ≤ i ∧ i < I h 5 ∧ tb i = rdT P (piM P lag fw w) (Vp P lag fw w (k : Int)) k r) := by
  obtain ⟨f0, f1, f2, f3, f4, f5, f6, f7, f8, f9, f10, f11, f12⟩ := id F
  obtain ⟨q0, q1, q2⟩ := id Q
  have hTB := TB.1
  have loop : ∀ (j : Nat), j ≤ k → rdT P (piM P lag fw w) (Vp P lag fw w (k : Int)) j r = rdT P (piM P lag fw w) (Vp P lag fw w (k : Int)) k r → PW sc mX2_readBy (d + 1) 0 0 (fun v Γ' I' R' => Γ' = Γ ∧ I' = I ∧ R' = R ∧ ∃ i, v = some (.inl i) ∧ 0 ≤ i ∧ i < I h 5 ∧ tb i = rdT P (piM P lag fw w) (Vp P lag fw w (k : Int)) k r) 5 [some (.inr (some f)), some (.inl (k : Int)), some (.inl r), some (.inr (some pp)), some (.inl ((j : Int) - 1))] [] Γ I R := by
    intro j
    induction j with
    | zero =>
      intro hj he
      refine PW.iload (pc := 5) dX2_readBy_5 rfl ?_
      refine PW.if_lt (pc := 7) (tgt := 62) dX2_readBy_7 (by decide) (by first | omega | exact rg_of _) (fun c_7 => ?_) (fun c_7 => ?_)
      · refine PW.iload_n (pc := 62) dX2_readBy_62 rfl ?_
        exact PW.ireturn (pc := 63) dX2_readBy_63 rfl (⟨rfl, rfl, rfl, r, rfl, hr.1, by omega, by rw [← he]; exact ((TB.row hr.1 (by omega)).1 hr.2).2.1⟩)
      · omega
    | succ j ih =>
      intro hj he
      rw [show ((j + 1 : Nat) : Int) - 1 = (j : Int) by omega]
      obtain ⟨a, b, c⟩ := q1 (j : Int) (by omega) (by omega)
      have hj4 := St_rg' P lag fw w (k := (j : Int)) (by omega)
      have hk4 := St_rg' P lag fw w (k := (k : Int)) (by omega)
      have hdd := dd_rg (P (j : Int))
      have hv := visb_01 lag fw (St P lag fw w (k : Int) - St P lag fw w (j : Int))
      have htg : -1 ≤ (if kd (P (j : Int)) = 0 then -1 else dd (P (j : Int))) ∧ (if kd (P (j : Int)) = 0 then -1 else dd (P (j : Int))) ≤ 3 := by split <;> omega
      have hmk : (if kd (P (j : Int)) = 0 then -1 else dd (P (j : Int))) = r ↔ mks P (j : Int) r := by
        by_cases q : kd (P (j : Int)) = 0
        · rw [if_pos q]
          exact ⟨fun w => by omega, fun w => absurd q w.1⟩
        · rw [if_neg q]
          exact ⟨fun w => ⟨q, w⟩, fun w => w.2⟩
      have hVp : Vp P lag fw w (k : Int) (j : Int) = true ↔ vis lag fw (St P lag fw w (k : Int) - St P lag fw w (j : Int)) := by unfold Vp; simp
      have skip : ¬ (mks P (j : Int) r ∧ Vp P lag fw w (k : Int) (j : Int) = true) → PW sc mX2_readBy (d + 1) 0 0 (fun v Γ' I' R' => Γ' = Γ ∧ I' = I ∧ R' = R ∧ ∃ i, v = some (.inl i) ∧ 0 ≤ i ∧ i < I h 5 ∧ tb i = rdT P (piM P lag fw w) (Vp P lag fw w (k : Int)) k r) 56 [some (.inr (some f)), some (.inl (k : Int)), some (.inl r), some (.inr (some pp)), some (.inl (j : Int))] [] Γ I R := by
        intro hno
        have he2 : rdT P (piM P lag fw w) (Vp P lag fw w (k : Int)) j r = rdT P (piM P lag fw w) (Vp P lag fw w (k : Int)) k r := by
          rw [← he, rdT, if_neg hno]
        refine PW.iinc (pc := 56) dX2_readBy_56 rfl (by decide) ?_
        refine PW.goto (pc := 59) (tgt := 5) dX2_readBy_59 (by decide) ?_
        exact ih (by omega) he2
      refine PW.iload (pc := 5) dX2_readBy_5 rfl ?_
      refine PW.if_lt (pc := 7) (tgt := 62) dX2_readBy_7 (by decide) (by first | omega | exact rg_of _) (fun c_7 => ?_) (fun c_7 => ?_)
      · omega
      · refine PW.iload_n (pc := 10) dX2_readBy_10 rfl ?_
        refine PW.bipush (pc := 11) dX2_readBy_11 (by decide) ?_
        refine PW.icmp_ge (pc := 13) (tgt := 62) dX2_readBy_13 (by decide) (by first | omega | exact rg_of _) (by first | omega | exact rg_of _) (fun c_13 => ?_) (fun c_13 => ?_)
        · omega
        · refine PW.aload_n (pc := 16) dX2_readBy_16 rfl ?_
          refine PW.getr (pc := 17) dX2_readBy_17 fl_X2_24 (by first | assumption | rfl) (by first | assumption | rfl) ?_
          refine PW.iload (pc := 20) dX2_readBy_20 rfl ?_
          refine PW.iald (pc := 22) dX2_readBy_22 (by first | assumption | rfl) (by omega) (by omega) (by omega) ?_
          refine PW.iload_n (pc := 23) dX2_readBy_23 rfl ?_
          rw [b]
          refine PW.icmp_ne (pc := 24) (tgt := 56) dX2_readBy_24 (by decide) (by first | omega | exact rg_of _) (by first | omega | exact rg_of _) (fun c_24 => ?_) (fun c_24 => ?_)
          · first | exact skip (fun q => c_24 (hmk.mpr q.1)) | exact skip (fun q => visb_0.mp c_45 (hVp.mp q.2))
          · refine PW.aload_n (pc := 27) dX2_readBy_27 rfl ?_
            refine PW.aload_n (pc := 28) dX2_readBy_28 rfl ?_
            refine PW.getr (pc := 29) dX2_readBy_29 fl_X2_21 (by first | assumption | rfl) (by first | assumption | rfl) ?_
            refine PW.iload_n (pc := 32) dX2_readBy_32 rfl ?_
            refine PW.iald (pc := 33) dX2_readBy_33 (by first | assumption | rfl) (by omega) (by omega) (by omega) ?_
            refine PW.aload_n (pc := 34) dX2_readBy_34 rfl ?_
            refine PW.getr (pc := 35) dX2_readBy_35 fl_X2_21 (by first | assumption | rfl) (by first | assumption | rfl) ?_
            refine PW.iload (pc := 38) dX2_readBy_38 rfl ?_
            refine PW.iald (pc := 40) dX2_readBy_40 (by first | assumption | rfl) (by omega) (by omega) (by omega) ?_
            rw [hs, a]
            refine PW.isub (pc := 41) dX2_readBy_41 ?_
            refine PW.invV0x (pc := 42) dX2_readBy_42 mv_X2_80 (c_X4_shows d hp (by omega) (by omega)) (by first | assumption | rfl) rfl rfl (Nat.le_of_ble_eq_true rfl) ?_
            rw [hl, hf]
            refine PW.if_eq (pc := 45) (tgt := 56) dX2_readBy_45 (by decide) (by first | omega | exact rg_of _) (fun c_45 => ?_) (fun c_45 => ?_)
            · first | exact skip (fun q => c_24 (hmk.mpr q.1)) | exact skip (fun q => visb_0.mp c_45 (hVp.mp q.2))
            · refine PW.aload_n (pc := 48) dX2_readBy_48 rfl ?_
              refine PW.getr (pc := 49) dX2_readBy_49 fl_X2_27 (by first | assumption | rfl) (by first | assumption | rfl) ?_
              refine PW.iload (pc := 52) dX2_readBy_52 rfl ?_
              refine PW.iald (pc := 54) dX2_readBy_54 (by first | assumption | rfl) (by omega) (by omega) (by omega) ?_
              exact PW.ireturn (pc := 55) dX2_readBy_55 rfl (by have m1 := hmk.mp c_24; have v1 := hVp.mpr (visb_1.mp (by omega)); obtain ⟨c1, c2, c3⟩ := c m1.1; exact ⟨rfl, rfl, rfl, _, rfl, c1, c2, by rw [c3, ← he, rdT, if_pos ⟨m1, v1⟩]⟩)
  refine PC.ofPW (by decide) (Nat.le_of_ble_eq_true rfl) ?_
  refine PW.iload_n (pc := 0) dX2_readBy_0 rfl ?_
  refine PW.iconst (pc := 1) dX2_readBy_1 ?_
  refine PW.isub (pc := 2) dX2_readBy_2 ?_
  refine PW.istore (pc := 3) dX2_readBy_3 (by decide) ?_
  exact loop k (Nat.le_refl _) rfl
end PIPED
