section FLOW
variable {sc : PSc} {Γ : List PTy} {R : PRm}
set_option maxRecDepth 100000 in
set_option maxHeartbeats 4000000 in
theorem c_kd (d : Nat) {I : PIm} {c : Int} (h : okc c) : PC sc mX5_kindOf d 0 0 [.inl c] Γ I R (px (some (.inl (kd c))) Γ I R) := by
  have := c_X5_kindOf (sc := sc) (Γ := Γ) (I := I) (R := R) d (c := c)
  rwa [(code_of h.1 (by omega)).1] at this
set_option maxRecDepth 100000 in
set_option maxHeartbeats 4000000 in
theorem c_dd (d : Nat) {I : PIm} {c : Int} (h : okc c) : PC sc mX5_targetOf d 0 0 [.inl c] Γ I R (px (some (.inl (dd c))) Γ I R) := by
  have := c_X5_targetOf (sc := sc) (Γ := Γ) (I := I) (R := R) d (c := c)
  rwa [(code_of h.1 (by omega)).2.1] at this
set_option maxRecDepth 100000 in
set_option maxHeartbeats 4000000 in
theorem c_ss (d : Nat) {I : PIm} {c : Int} (h : okc c) : PC sc mX5_firstOf d 0 0 [.inl c] Γ I R (px (some (.inl (ss c))) Γ I R) := by
  have := c_X5_firstOf (sc := sc) (Γ := Γ) (I := I) (R := R) d (c := c)
  rwa [(code_of h.1 (by omega)).2.2.1] at this
set_option maxRecDepth 100000 in
set_option maxHeartbeats 4000000 in
theorem c_tt (d : Nat) {I : PIm} {c : Int} (h : okc c) : PC sc mX5_secondOf d 0 0 [.inl c] Γ I R (px (some (.inl (tt c))) Γ I R) := by
  have := c_X5_secondOf (sc := sc) (Γ := Γ) (I := I) (R := R) d (c := c)
  rwa [(code_of h.1 (by omega)).2.2.2] at this
set_option maxRecDepth 100000 in
set_option maxHeartbeats 4000000 in
theorem c_X2_headOf (d : Nat) {I : PIm} {c : Int} (h : Rg c) : PC sc mX2_headOf d 0 0 [.inl c] Γ I R (px (some (.inl (if c = 1 then 4 else 5))) Γ I R) := by
  refine PC.ofPW (by decide) (Nat.le_of_ble_eq_true rfl) ?_
  refine PW.iload_n (pc := 0) dX2_headOf_0 rfl ?_
  refine PW.iconst (pc := 1) dX2_headOf_1 ?_
  refine PW.icmp_ne (pc := 2) (tgt := 9) dX2_headOf_2 (by decide) (by first | omega | exact rg_of _) (by first | omega | exact rg_of _) (fun c_2 => ?_) (fun c_2 => ?_)
  · refine PW.iconst (pc := 9) dX2_headOf_9 ?_
    exact PW.ireturn (pc := 10) dX2_headOf_10 rfl (by first | (rw [if_pos c_2]; exact px_rfl) | (rw [if_neg c_2]; exact px_rfl))
  · refine PW.iconst (pc := 5) dX2_headOf_5 ?_
    refine PW.goto (pc := 6) (tgt := 10) dX2_headOf_6 (by decide) ?_
    exact PW.ireturn (pc := 10) dX2_headOf_10 rfl (by first | (rw [if_pos c_2]; exact px_rfl) | (rw [if_neg c_2]; exact px_rfl))
/-! Flow: 0 plain, 1 piped, 2 makers, 3 steps, 4 targets, 5 made -/
def FlowAt (Γ : List PTy) (R : PRm) (f : Nat) : Prop := Γ[f]? = some (.inl 2) ∧ R f 0 = some (f + 1) ∧ R f 1 = some (f + 2) ∧ R f 2 = some (f + 3) ∧ R f 3 = some (f + 4) ∧ R f 4 = some (f + 5) ∧ R f 5 = some (f + 6) ∧ Γ[f + 1]? = some (.inr (0, 4)) ∧ Γ[f + 2]? = some (.inr (0, 4)) ∧ Γ[f + 3]? = some (.inr (0, 4)) ∧ Γ[f + 4]? = some (.inr (0, 6)) ∧ Γ[f + 5]? = some (.inr (0, 6)) ∧ Γ[f + 6]? = some (.inr (0, 6))
def ProgOK (I : PIm) (p : Nat) (P : Int → Int) (n : Nat) : Prop := I p 1 = n ∧ n ≤ 6 ∧ ∀ k : Int, 0 ≤ k → k < n → I (p + 1) k = P k ∧ okc (P k)
set_option maxRecDepth 100000 in
set_option maxHeartbeats 4000000 in
theorem Tab.congr {I I' : PIm} {h : Nat} {z : Int} {tb : Int → Tm} (T : Tab I h z tb) (he : ∀ q, h ≤ q → q ≤ h + 5 → ∀ k, I' q k = I q k) : Tab I' h z tb := by
  obtain ⟨T0, T1, T2⟩ := T
  refine ⟨T0, fun i h0 h1 => ?_, T2⟩
  have r := T1 i h0 h1
  unfold TabE at r ⊢
  rw [he (h + 1) (by omega) (by omega), he (h + 2) (by omega) (by omega), he (h + 3) (by omega) (by omega), he (h + 4) (by omega) (by omega), he (h + 5) (by omega) (by omega)]
  exact r
/-- a table has grown by the terms S -/
def GrowS (I0 I : PIm) (h : Nat) (tb0 tb : Int → Tm) (S : Tm → Prop) : Prop := Tab I h (I h 5) tb ∧ I0 h 5 ≤ I h 5 ∧ (∀ j, j < I0 h 5 → tb j = tb0 j) ∧ (∀ j, 0 ≤ j → j < I h 5 → j < I0 h 5 ∨ S (tb j)) ∧ (∀ t, S t → ∃ j, 0 ≤ j ∧ j < I h 5 ∧ tb j = t) ∧ I h 6 = I0 h 6
set_option maxRecDepth 100000 in
set_option maxHeartbeats 4000000 in
theorem GrowS.start {I : PIm} {h : Nat} {tb : Int → Tm} (T : Tab I h (I h 5) tb) {S : Tm → Prop} (hS : ∀ t, ¬ S t) : GrowS I I h tb tb S := ⟨T, Int.le_refl _, fun _ _ => rfl, fun j _ h1 => Or.inl h1, fun t h => absurd h (hS t), rfl⟩
set_option maxRecDepth 100000 in
set_option maxHeartbeats 4000000 in
theorem GrowS.congr {I0 I I' : PIm} {h : Nat} {tb0 tb : Int → Tm} {S : Tm → Prop} (G : GrowS I0 I h tb0 tb S) (he : ∀ q, h ≤ q → q ≤ h + 5 → ∀ k, I' q k = I q k) : GrowS I0 I' h tb0 tb S := by
  obtain ⟨g1, g2, g3, g4, g5, g6⟩ := G
  have e5 := he h (by omega) (by omega) 5
  have e6 := he h (by omega) (by omega) 6
  exact ⟨by rw [e5]; exact g1.congr he, by rw [e5]; exact g2, g3, by rw [e5]; exact g4, by rw [e5]; exact g5, by rw [e6]; exact g6⟩
set_option maxRecDepth 100000 in
set_option maxHeartbeats 4000000 in
theorem GrowS.sub {I0 I : PIm} {h : Nat} {tb0 tb : Int → Tm} {S S' : Tm → Prop} (G : GrowS I0 I h tb0 tb S) (hs : ∀ t, S' t ↔ S t) : GrowS I0 I h tb0 tb S' := by
  obtain ⟨g1, g2, g3, g4, g5, g6⟩ := G
  exact ⟨g1, g2, g3, fun j h0 h1 => (g4 j h0 h1).imp id (hs _).mpr, fun t h => g5 t ((hs t).mp h), g6⟩
set_option maxRecDepth 100000 in
set_option maxHeartbeats 4000000 in
theorem GrowS.made {I0 I I' : PIm} {h : Nat} {tb0 tb tb' : Int → Tm} {S S' : Tm → Prop} {t : Tm} {i : Int} (G : GrowS I0 I h tb0 tb S) (M : Made I I' h tb tb' t i) (hs : ∀ u, S' u ↔ S u ∨ u = t) : GrowS I0 I' h tb0 tb' S' := by
  obtain ⟨g1, g2, g3, g4, g5, g6⟩ := G
  obtain ⟨m1, m2, m3, m4, m5, m6, m7, m8⟩ := M
  refine ⟨m3, by omega, fun j hj => by rw [m5 j (by omega), g3 j hj], fun j h0 h1 => ?_, fun u hu => ?_, by rw [m8, g6]⟩
  · rcases m6 j h1 with q | q
    · rcases g4 j h0 q with w | w
      · exact Or.inl w
      · exact Or.inr ((hs _).mpr (Or.inl (by rw [m5 j q]; exact w)))
    · exact Or.inr ((hs _).mpr (Or.inr q))
  · rcases (hs u).mp hu with q | q
    · obtain ⟨j, j0, j1, j2⟩ := g5 u q
      exact ⟨j, j0, by omega, by rw [m5 j j1]; exact j2⟩
    · exact ⟨i, m1.1, m1.2, by rw [q]; exact m2⟩
/-- PLAIN, k instructions through -/
def FlowP (I0 I : PIm) (h f : Nat) (tb0 tb : Int → Tm) (P : Int → Int) (k : Nat) : Prop :=
  GrowS I0 I h tb0 tb (fun t => ∃ j : Int, 0 ≤ j ∧ j < k ∧ kd (P j) ≠ 0 ∧ t = plM P j) ∧ I h 5 ≤ I0 h 5 + k ∧ (∀ q z, ¬ (h ≤ q ∧ q ≤ h + 5) → q ≠ f + 1 → I q z = I0 q z) ∧ ∀ r, 0 ≤ r → r < 4 → 0 ≤ I (f + 1) r ∧ I (f + 1) r < I h 5 ∧ tb (I (f + 1) r) = plT P k r
set_option maxRecDepth 100000 in
set_option maxHeartbeats 4000000 in
theorem mks_step {P : Int → Int} {M : Int → Tm} {k : Nat} (hk : kd (P (k : Int)) ≠ 0) (t : Tm) : (∃ j : Int, 0 ≤ j ∧ j < ((k + 1 : Nat) : Int) ∧ kd (P j) ≠ 0 ∧ t = M j) ↔ (∃ j : Int, 0 ≤ j ∧ j < (k : Int) ∧ kd (P j) ≠ 0 ∧ t = M j) ∨ t = M (k : Int) := by
  constructor
  · rintro ⟨j, j0, j1, j2, j3⟩
    by_cases q : j = (k : Int)
    · subst q; exact Or.inr j3
    · exact Or.inl ⟨j, j0, by omega, j2, j3⟩
  · rintro (⟨j, j0, j1, j2, j3⟩ | h)
    · exact ⟨j, j0, by omega, j2, j3⟩
    · exact ⟨k, by omega, by omega, hk, h⟩
set_option maxRecDepth 100000 in
set_option maxHeartbeats 4000000 in
theorem mks_stay {P : Int → Int} {M : Int → Tm} {k : Nat} (hk : kd (P (k : Int)) = 0) (t : Tm) : (∃ j : Int, 0 ≤ j ∧ j < ((k + 1 : Nat) : Int) ∧ kd (P j) ≠ 0 ∧ t = M j) ↔ (∃ j : Int, 0 ≤ j ∧ j < (k : Int) ∧ kd (P j) ≠ 0 ∧ t = M j) := by
  constructor
  · rintro ⟨j, j0, j1, j2, j3⟩
    by_cases q : j = (k : Int)
    · subst q; exact absurd hk j2
    · exact ⟨j, j0, by omega, j2, j3⟩
  · rintro ⟨j, j0, j1, j2, j3⟩
    exact ⟨j, j0, by omega, j2, j3⟩
set_option maxRecDepth 100000 in
set_option maxHeartbeats 4000000 in
theorem FlowP.made {I0 I I' : PIm} {h f : Nat} {tb0 tb tb' : Int → Tm} {P : Int → Int} {k : Nat} {i : Int} (F : FlowP I0 I h f tb0 tb P k) (hk : kd (P (k : Int)) ≠ 0) (M : Made I I' h tb tb' (plM P (k : Int)) i) (hdj : f + 6 < h ∨ h + 5 < f) : FlowP I0 (pw_up I' (f + 1) (dd (P (k : Int))) i) h f tb0 tb' P (k + 1) := by
  obtain ⟨f1, f2, f3, f4⟩ := F
  have G := f1.made M (mks_step hk)
  obtain ⟨m1, m2, m3, m4, m5, m6, m7, m8⟩ := M
  have e : ∀ q, h ≤ q → q ≤ h + 5 → ∀ z, pw_up I' (f + 1) (dd (P (k : Int))) i q z = I' q z := fun q h0 h1 z => pw_up_other (by omega)
  have e5 := e h (by omega) (by omega) 5
  refine ⟨G.congr e, by rw [e5]; omega, fun q z h0 h1 => by rw [pw_up_other (by omega), m7 q z h0, f3 q z h0 h1], fun r r0 r1 => ?_⟩
  rw [e5]
  have hd := dd_rg (P (k : Int))
  unfold plT
  rw [rdT]
  by_cases q : dd (P (k : Int)) = r
  · rw [if_pos ⟨⟨hk, q⟩, rfl⟩, q, pw_up_self]
    exact ⟨m1.1, m1.2, m2⟩
  · rw [if_neg (fun w => q w.1.2), pw_up_other (by omega), m7 (f + 1) r (by omega)]
    obtain ⟨a, b, c⟩ := f4 r r0 r1
    exact ⟨a, by omega, by rw [m5 _ b]; exact c⟩
set_option maxRecDepth 100000 in
set_option maxHeartbeats 4000000 in
theorem FlowP.stay {I0 I : PIm} {h f : Nat} {tb0 tb : Int → Tm} {P : Int → Int} {k : Nat} (F : FlowP I0 I h f tb0 tb P k) (hk : kd (P (k : Int)) = 0) : FlowP I0 I h f tb0 tb P (k + 1) := by
  obtain ⟨f1, f2, f3, f4⟩ := F
  refine ⟨f1.sub (mks_stay hk), by omega, f3, fun r r0 r1 => ?_⟩
  unfold plT
  rw [rdT, if_neg (fun w => w.1.1 hk)]
  exact f4 r r0 r1
set_option maxRecDepth 100000 in
set_option maxHeartbeats 4000000 in
theorem plM_eq (P : Int → Int) (k : Nat) : plM P (k : Int) = mkT (kd (P (k : Int))) (plT P k (ss (P (k : Int)))) (plT P k (tt (P (k : Int)))) := Md_eq P Vt k
set_option maxRecDepth 100000 in
set_option maxHeartbeats 4000000 in
theorem c_X2_goPlain (d : Nat) {I0 : PIm} {f p h N n : Nat} {tb0 : Int → Tm} {P : Int → Int} (F : FlowAt Γ R f) (G : ProgAt Γ R p) (T : TermsAt Γ R h N) (TB : Tab I0 h (I0 h 5) tb0) (hP : ProgOK I0 p P n) (hN : I0 h 5 + n ≤ N) (hd1 : f + 6 < h ∨ h + 5 < f) (hd2 : p + 1 < h ∨ h + 5 < p) (hd3 : p + 1 < f ∨ f + 6 < p) :
    PC sc mX2_goPlain (d + 3) 0 0 [.inr (some f), .inr (some p), .inr (some h)] Γ I0 R (fun v Γ' I' R' => v = none ∧ Γ' = Γ ∧ R' = R ∧ ∃ tb', FlowP I0 I' h f tb0 tb' P n) := by
  obtain ⟨f0, f1, f2, f3, f4, f5, f6, f7, f8, f9, f10, f11, f12⟩ := id F
  obtain ⟨p0, p1, p2⟩ := id G
  obtain ⟨hPn, hn6, hPc⟩ := id hP
  have t0 := T.1
  have t11 : N ≤ 200 := T.2.2.2.2.2.2.2.2.2.2.2
  have loop : ∀ (N1 k : Nat) (I : PIm) (tb : Int → Tm) (o1 o2 o3 o4 : Option PV), n - k = N1 → k ≤ n → FlowP I0 I h f tb0 tb P k → PW sc mX2_goPlain (d + 3) 0 0 (fun v Γ' I' R' => v = none ∧ Γ' = Γ ∧ R' = R ∧ ∃ tb', FlowP I0 I' h f tb0 tb' P n) 22 [some (.inr (some f)), some (.inr (some p)), some (.inr (some h)), some (.inl (k : Int)), o1, o2, o3, o4] [] Γ I R := by
    intro N1
    induction N1 using Nat.strongRecOn with
    | _ N1 ih =>
      intro k I tb o1 o2 o3 o4 hN1 hkn FP
      obtain ⟨g1, g2, g3, g4⟩ := id FP
      have en : I p 1 = n := by rw [g3 p 1 (by omega) (by omega)]; exact hPn
      by_cases hk : k < n
      · obtain ⟨ec, oc⟩ := hPc (k : Int) (by omega) (by omega)
        have ec' : I (p + 1) (k : Int) = P (k : Int) := by rw [g3 (p + 1) _ (by omega) (by omega)]; exact ec
        have hkd := kd_rg oc
        have hss := ss_rg (P (k : Int))
        have htt := tt_rg (P (k : Int))
        have hdd := dd_rg (P (k : Int))
        obtain ⟨a0, a1, a2⟩ := g4 _ hss.1 hss.2
        obtain ⟨b0, b1, b2⟩ := g4 _ htt.1 htt.2
        have hN' : I h 5 < N := by omega
        by_cases h0 : kd (P (k : Int)) = 0
        · refine PW.iload_n (pc := 22) dX2_goPlain_22 rfl ?_
          refine PW.aload_n (pc := 23) dX2_goPlain_23 rfl ?_
          refine PW.geti (pc := 24) dX2_goPlain_24 fl_X2_30 (by decide) (by first | assumption | rfl) ?_
          rw [en]
          refine PW.icmp_ge (pc := 27) (tgt := 109) dX2_goPlain_27 (by decide) (by first | omega | exact rg_of _) (by first | omega | exact rg_of _) (fun c_27 => ?_) (fun c_27 => ?_)
          · omega
          · refine PW.iload_n (pc := 30) dX2_goPlain_30 rfl ?_
            refine PW.bipush (pc := 31) dX2_goPlain_31 (by decide) ?_
            refine PW.icmp_ge (pc := 33) (tgt := 109) dX2_goPlain_33 (by decide) (by first | omega | exact rg_of _) (by first | omega | exact rg_of _) (fun c_33 => ?_) (fun c_33 => ?_)
            · omega
            · refine PW.aload_n (pc := 36) dX2_goPlain_36 rfl ?_
              refine PW.getr (pc := 37) dX2_goPlain_37 fl_X2_36 (by first | assumption | rfl) (by first | assumption | rfl) ?_
              refine PW.iload_n (pc := 40) dX2_goPlain_40 rfl ?_
              refine PW.iald (pc := 41) dX2_goPlain_41 (by first | assumption | rfl) (by omega) (by omega) (by omega) ?_
              rw [ec']
              refine PW.istore (pc := 42) dX2_goPlain_42 (by decide) ?_
              refine PW.iload (pc := 44) dX2_goPlain_44 rfl ?_
              refine PW.invS0x (pc := 46) dX2_goPlain_46 ms_X2_39 (c_kd (d + 2) oc) rfl rfl (Nat.le_of_ble_eq_true rfl) ?_
              refine PW.istore (pc := 49) dX2_goPlain_49 (by decide) ?_
              refine PW.iload (pc := 51) dX2_goPlain_51 rfl ?_
              refine PW.if_eq (pc := 53) (tgt := 103) dX2_goPlain_53 (by decide) (by first | omega | exact rg_of _) (fun c_53 => ?_) (fun c_53 => ?_)
              · refine PW.iinc (pc := 103) dX2_goPlain_103 rfl (by decide) ?_
                refine PW.goto (pc := 106) (tgt := 22) dX2_goPlain_106 (by decide) ?_
                exact ih (n - (k + 1)) (by omega) (k + 1) I tb _ _ _ _ rfl (by omega) (FP.stay h0)
              · omega
        · have et : plM P (k : Int) = if (if kd (P (k : Int)) = 1 then 4 else 5) = (5 : Int) then tg (tb (I (f + 1) (ss (P (k : Int))))) (tb (if (if kd (P (k : Int)) = 1 then 4 else 5) = (5 : Int) then I (f + 1) (tt (P (k : Int))) else I (f + 1) (ss (P (k : Int))))) else tf (tb (I (f + 1) (ss (P (k : Int))))) := by
            rw [plM_eq, a2]
            unfold mkT
            by_cases h1 : kd (P (k : Int)) = 1
            · rw [if_pos h1, if_pos h1, if_neg (by decide)]
            · rw [if_neg h1, if_neg h1, if_pos rfl, if_pos rfl, b2]
          refine PW.iload_n (pc := 22) dX2_goPlain_22 rfl ?_
          refine PW.aload_n (pc := 23) dX2_goPlain_23 rfl ?_
          refine PW.geti (pc := 24) dX2_goPlain_24 fl_X2_30 (by decide) (by first | assumption | rfl) ?_
          rw [en]
          refine PW.icmp_ge (pc := 27) (tgt := 109) dX2_goPlain_27 (by decide) (by first | omega | exact rg_of _) (by first | omega | exact rg_of _) (fun c_27 => ?_) (fun c_27 => ?_)
          · omega
          · refine PW.iload_n (pc := 30) dX2_goPlain_30 rfl ?_
            refine PW.bipush (pc := 31) dX2_goPlain_31 (by decide) ?_
            refine PW.icmp_ge (pc := 33) (tgt := 109) dX2_goPlain_33 (by decide) (by first | omega | exact rg_of _) (by first | omega | exact rg_of _) (fun c_33 => ?_) (fun c_33 => ?_)
            · omega
            · refine PW.aload_n (pc := 36) dX2_goPlain_36 rfl ?_
              refine PW.getr (pc := 37) dX2_goPlain_37 fl_X2_36 (by first | assumption | rfl) (by first | assumption | rfl) ?_
              refine PW.iload_n (pc := 40) dX2_goPlain_40 rfl ?_
              refine PW.iald (pc := 41) dX2_goPlain_41 (by first | assumption | rfl) (by omega) (by omega) (by omega) ?_
              rw [ec']
              refine PW.istore (pc := 42) dX2_goPlain_42 (by decide) ?_
              refine PW.iload (pc := 44) dX2_goPlain_44 rfl ?_
              refine PW.invS0x (pc := 46) dX2_goPlain_46 ms_X2_39 (c_kd (d + 2) oc) rfl rfl (Nat.le_of_ble_eq_true rfl) ?_
              refine PW.istore (pc := 49) dX2_goPlain_49 (by decide) ?_
              refine PW.iload (pc := 51) dX2_goPlain_51 rfl ?_
              refine PW.if_eq (pc := 53) (tgt := 103) dX2_goPlain_53 (by decide) (by first | omega | exact rg_of _) (fun c_53 => ?_) (fun c_53 => ?_)
              · omega
              · refine PW.aload_n (pc := 56) dX2_goPlain_56 rfl ?_
                refine PW.getr (pc := 57) dX2_goPlain_57 fl_X2_9 (by first | assumption | rfl) (by first | assumption | rfl) ?_
                refine PW.iload (pc := 60) dX2_goPlain_60 rfl ?_
                refine PW.invS0x (pc := 62) dX2_goPlain_62 ms_X2_43 (c_ss (d + 2) oc) rfl rfl (Nat.le_of_ble_eq_true rfl) ?_
                refine PW.iald (pc := 65) dX2_goPlain_65 (by first | assumption | rfl) (by omega) (by omega) (by omega) ?_
                refine PW.istore (pc := 66) dX2_goPlain_66 (by decide) ?_
                refine PW.aload_n (pc := 68) dX2_goPlain_68 rfl ?_
                refine PW.getr (pc := 69) dX2_goPlain_69 fl_X2_9 (by first | assumption | rfl) (by first | assumption | rfl) ?_
                refine PW.iload (pc := 72) dX2_goPlain_72 rfl ?_
                refine PW.invS0x (pc := 74) dX2_goPlain_74 ms_X2_46 (c_tt (d + 2) oc) rfl rfl (Nat.le_of_ble_eq_true rfl) ?_
                refine PW.iald (pc := 77) dX2_goPlain_77 (by first | assumption | rfl) (by omega) (by omega) (by omega) ?_
                refine PW.istore (pc := 78) dX2_goPlain_78 (by decide) ?_
                refine PW.aload_n (pc := 80) dX2_goPlain_80 rfl ?_
                refine PW.getr (pc := 81) dX2_goPlain_81 fl_X2_9 (by first | assumption | rfl) (by first | assumption | rfl) ?_
                refine PW.iload (pc := 84) dX2_goPlain_84 rfl ?_
                refine PW.invS0x (pc := 86) dX2_goPlain_86 ms_X2_49 (c_dd (d + 2) oc) rfl rfl (Nat.le_of_ble_eq_true rfl) ?_
                refine PW.aload_n (pc := 89) dX2_goPlain_89 rfl ?_
                refine PW.iload (pc := 90) dX2_goPlain_90 rfl ?_
                refine PW.invS0x (pc := 92) dX2_goPlain_92 ms_X2_52 (c_X2_headOf (d + 2) (by omega)) rfl rfl (Nat.le_of_ble_eq_true rfl) ?_
                refine PW.iload (pc := 95) dX2_goPlain_95 rfl ?_
                refine PW.iload (pc := 97) dX2_goPlain_97 rfl ?_
                refine PW.invV0 (pc := 99) dX2_goPlain_99 mv_X2_55 (c_X8_make d T g1.1 hN' (by split <;> omega) ⟨a0, a1⟩ (by split <;> omega) (by omega) rfl et) (by first | assumption | rfl) rfl rfl (Nat.le_of_ble_eq_true rfl) ?_
                (rintro v Γ' I' R' ⟨rfl, rfl, i, tb', rfl, hM⟩)
                refine PW.iast (pc := 102) dX2_goPlain_102 (by first | assumption | rfl) (by omega) (by omega) (by omega) ?_
                refine PW.iinc (pc := 103) dX2_goPlain_103 rfl (by decide) ?_
                refine PW.goto (pc := 106) (tgt := 22) dX2_goPlain_106 (by decide) ?_
                exact ih (n - (k + 1)) (by omega) (k + 1) _ tb' _ _ _ _ rfl (by omega) (FP.made h0 hM hd1)
      · obtain rfl : k = n := by omega
        refine PW.iload_n (pc := 22) dX2_goPlain_22 rfl ?_
        refine PW.aload_n (pc := 23) dX2_goPlain_23 rfl ?_
        refine PW.geti (pc := 24) dX2_goPlain_24 fl_X2_30 (by decide) (by first | assumption | rfl) ?_
        rw [en]
        refine PW.icmp_ge (pc := 27) (tgt := 109) dX2_goPlain_27 (by decide) (by first | omega | exact rg_of _) (by first | omega | exact rg_of _) (fun c_27 => ?_) (fun c_27 => ?_)
        · exact PW.vreturn (pc := 109) dX2_goPlain_109 rfl (⟨rfl, rfl, rfl, tb, FP⟩)
        · omega
  refine PC.ofPW (by decide) (Nat.le_of_ble_eq_true rfl) ?_
  have hI : ∀ q z, ¬ (h ≤ q ∧ q ≤ h + 5) → q ≠ f + 1 → pw_up (pw_up (pw_up (pw_up I0 (f + 1) 0 0) (f + 1) 1 1) (f + 1) 2 2) (f + 1) 3 3 q z = I0 q z := fun q z h0 h1 => by
    rw [pw_up_other (by omega), pw_up_other (by omega), pw_up_other (by omega), pw_up_other (by omega)]
  have hH : ∀ q, h ≤ q → q ≤ h + 5 → ∀ z, pw_up (pw_up (pw_up (pw_up I0 (f + 1) 0 0) (f + 1) 1 1) (f + 1) 2 2) (f + 1) 3 3 q z = I0 q z := fun q h0 h1 z => by
    rw [pw_up_other (by omega), pw_up_other (by omega), pw_up_other (by omega), pw_up_other (by omega)]
  have FP0 : FlowP I0 (pw_up (pw_up (pw_up (pw_up I0 (f + 1) 0 0) (f + 1) 1 1) (f + 1) 2 2) (f + 1) 3 3) h f tb0 tb0 P 0 := by
    refine ⟨(GrowS.start TB (fun t => by rintro ⟨j, j0, j1, -⟩; omega)).congr hH, by rw [hH h (by omega) (by omega)]; omega, hI, fun r r0 r1 => ?_⟩
    have h4 := TB.1
    have er : pw_up (pw_up (pw_up (pw_up I0 (f + 1) 0 0) (f + 1) 1 1) (f + 1) 2 2) (f + 1) 3 3 (f + 1) r = r := by
      unfold pw_up
      by_cases q3 : r = 3
      · subst q3; simp
      · by_cases q2 : r = 2
        · subst q2; simp
        · by_cases q1 : r = 1
          · subst q1; simp
          · obtain rfl : r = 0 := by omega
            simp
    rw [er, hH h (by omega) (by omega)]
    exact ⟨r0, by omega, ((TB.row r0 (by omega)).1 r1).2.1⟩
  refine PW.iconst (pc := 0) dX2_goPlain_0 ?_
  refine PW.istore_n (pc := 1) dX2_goPlain_1 (by decide) ?_
  refine PW.iload_n (pc := 2) dX2_goPlain_2 rfl ?_
  refine PW.iconst (pc := 3) dX2_goPlain_3 ?_
  refine PW.icmp_ge (pc := 4) (tgt := 20) dX2_goPlain_4 (by decide) (by first | omega | exact rg_of _) (by first | omega | exact rg_of _) (fun c_4 => ?_) (fun c_4 => ?_)
  · omega
  · refine PW.aload_n (pc := 7) dX2_goPlain_7 rfl ?_
    refine PW.getr (pc := 8) dX2_goPlain_8 fl_X2_9 (by first | assumption | rfl) (by first | assumption | rfl) ?_
    refine PW.iload_n (pc := 11) dX2_goPlain_11 rfl ?_
    refine PW.iload_n (pc := 12) dX2_goPlain_12 rfl ?_
    refine PW.iast (pc := 13) dX2_goPlain_13 (by first | assumption | rfl) (by omega) (by omega) (by omega) ?_
    refine PW.iinc (pc := 14) dX2_goPlain_14 rfl (by decide) ?_
    refine PW.goto (pc := 17) (tgt := 2) dX2_goPlain_17 (by decide) ?_
    refine PW.iload_n (pc := 2) dX2_goPlain_2 rfl ?_
    refine PW.iconst (pc := 3) dX2_goPlain_3 ?_
    refine PW.icmp_ge (pc := 4) (tgt := 20) dX2_goPlain_4 (by decide) (by first | omega | exact rg_of _) (by first | omega | exact rg_of _) (fun c_4 => ?_) (fun c_4 => ?_)
    · omega
    · refine PW.aload_n (pc := 7) dX2_goPlain_7 rfl ?_
      refine PW.getr (pc := 8) dX2_goPlain_8 fl_X2_9 (by first | assumption | rfl) (by first | assumption | rfl) ?_
      refine PW.iload_n (pc := 11) dX2_goPlain_11 rfl ?_
      refine PW.iload_n (pc := 12) dX2_goPlain_12 rfl ?_
      refine PW.iast (pc := 13) dX2_goPlain_13 (by first | assumption | rfl) (by omega) (by omega) (by omega) ?_
      refine PW.iinc (pc := 14) dX2_goPlain_14 rfl (by decide) ?_
      refine PW.goto (pc := 17) (tgt := 2) dX2_goPlain_17 (by decide) ?_
      refine PW.iload_n (pc := 2) dX2_goPlain_2 rfl ?_
      refine PW.iconst (pc := 3) dX2_goPlain_3 ?_
      refine PW.icmp_ge (pc := 4) (tgt := 20) dX2_goPlain_4 (by decide) (by first | omega | exact rg_of _) (by first | omega | exact rg_of _) (fun c_4 => ?_) (fun c_4 => ?_)
      · omega
      · refine PW.aload_n (pc := 7) dX2_goPlain_7 rfl ?_
        refine PW.getr (pc := 8) dX2_goPlain_8 fl_X2_9 (by first | assumption | rfl) (by first | assumption | rfl) ?_
        refine PW.iload_n (pc := 11) dX2_goPlain_11 rfl ?_
        refine PW.iload_n (pc := 12) dX2_goPlain_12 rfl ?_
        refine PW.iast (pc := 13) dX2_goPlain_13 (by first | assumption | rfl) (by omega) (by omega) (by omega) ?_
        refine PW.iinc (pc := 14) dX2_goPlain_14 rfl (by decide) ?_
        refine PW.goto (pc := 17) (tgt := 2) dX2_goPlain_17 (by decide) ?_
        refine PW.iload_n (pc := 2) dX2_goPlain_2 rfl ?_
        refine PW.iconst (pc := 3) dX2_goPlain_3 ?_
        refine PW.icmp_ge (pc := 4) (tgt := 20) dX2_goPlain_4 (by decide) (by first | omega | exact rg_of _) (by first | omega | exact rg_of _) (fun c_4 => ?_) (fun c_4 => ?_)
        · omega
        · refine PW.aload_n (pc := 7) dX2_goPlain_7 rfl ?_
          refine PW.getr (pc := 8) dX2_goPlain_8 fl_X2_9 (by first | assumption | rfl) (by first | assumption | rfl) ?_
          refine PW.iload_n (pc := 11) dX2_goPlain_11 rfl ?_
          refine PW.iload_n (pc := 12) dX2_goPlain_12 rfl ?_
          refine PW.iast (pc := 13) dX2_goPlain_13 (by first | assumption | rfl) (by omega) (by omega) (by omega) ?_
          refine PW.iinc (pc := 14) dX2_goPlain_14 rfl (by decide) ?_
          refine PW.goto (pc := 17) (tgt := 2) dX2_goPlain_17 (by decide) ?_
          refine PW.iload_n (pc := 2) dX2_goPlain_2 rfl ?_
          refine PW.iconst (pc := 3) dX2_goPlain_3 ?_
          refine PW.icmp_ge (pc := 4) (tgt := 20) dX2_goPlain_4 (by decide) (by first | omega | exact rg_of _) (by first | omega | exact rg_of _) (fun c_4 => ?_) (fun c_4 => ?_)
          · refine PW.iconst (pc := 20) dX2_goPlain_20 ?_
            refine PW.istore_n (pc := 21) dX2_goPlain_21 (by decide) ?_
            exact loop n 0 _ tb0 _ _ _ _ (by omega) (by omega) FP0
          · omega
end FLOW
