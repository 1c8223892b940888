section MGO
variable {sc : PSc} {Γ : List PTy} {R : PRm}
set_option maxRecDepth 100000 in
set_option maxHeartbeats 1000000 in
theorem ProgM.cg {I I' : PIm} {P : Int → Int} {n : Nat} (h : ProgM I P n) (e : I' 116 = I 116) : ProgM I' P n := by
  unfold ProgM at h ⊢
  rw [e]; exact h
set_option maxRecDepth 100000 in
set_option maxHeartbeats 1000000 in
theorem c_X11_laysSteps (d : Nat) {I0 : PIm} {P : Int → Int} {n : Nat} {lag fw w : Int} (M : MAt Γ R) (hP : ProgM I0 P n) (hl : I0 116 26 = lag) (hl3 : 0 ≤ lag ∧ lag ≤ 3) (hw : w = 0 ∨ w = 1) : PC sc mX11_laysSteps (d + 5) 0 0 [.inr (some 112), .inl fw, .inl w] Γ I0 R (fun v Γ' I' R' => v = none ∧ Γ' = Γ ∧ R' = R ∧ (∀ q, q ≠ 138 → I' q = I0 q) ∧ ∀ k : Int, 0 ≤ k → k < n → I' 138 k = St P lag fw w k) := by
  have hn6 := hP.2.1
  have hr : ∀ j : Int, 0 ≤ j → j < n → 0 ≤ St P lag fw w j ∧ St P lag fw w j ≤ 100 := fun j j0 j1 => by have := St_rg' P lag fw w j0; omega
  have loop : ∀ (N k : Nat) (I : PIm), n - k = N → k ≤ n → (∀ q, q ≠ 138 → I q = I0 q) → (∀ j : Int, 0 ≤ j → j < k → I 138 j = St P lag fw w j) → PW sc mX11_laysSteps (d + 5) 0 0 (fun v Γ' I' R' => v = none ∧ Γ' = Γ ∧ R' = R ∧ (∀ q, q ≠ 138 → I' q = I0 q) ∧ ∀ k : Int, 0 ≤ k → k < n → I' 138 k = St P lag fw w k) 2 [some (.inr (some 112)), some (.inl fw), some (.inl w), some (.inl (k : Int))] [] Γ I R := by
    intro N
    induction N using Nat.strongRecOn with
    | _ N ih =>
      intro k I hN hk fr hS
      have e0 : I 116 0 = n := by rw [fr 116 (by omega)]; exact hP.1
      by_cases hlt : k < n
      · have fg := fre_rg P lag fw w k
        have SE := St_eq P lag fw w k
        have nx : ∀ I2 : PIm, (∀ q, q ≠ 138 → I2 q = I0 q) → (∀ j : Int, 0 ≤ j → j < k → I2 138 j = St P lag fw w j) → I2 138 k = St P lag fw w k → PW sc mX11_laysSteps (d + 5) 0 0 (fun v Γ' I' R' => v = none ∧ Γ' = Γ ∧ R' = R ∧ (∀ q, q ≠ 138 → I' q = I0 q) ∧ ∀ k : Int, 0 ≤ k → k < n → I' 138 k = St P lag fw w k) 68 [some (.inr (some 112)), some (.inl fw), some (.inl w), some (.inl (k : Int))] [] Γ I2 R := by
          intro I2 f1 f2 f3
          have nx := ih (n - (k + 1)) (by omega) (k + 1) I2 rfl (by omega) f1 (fun j j0 j1 => by
            by_cases e : j = (k : Int)
            · rw [e]; exact f3
            · exact f2 j j0 (by omega))
          refine PW.iinc (pc := 68) dX11_laysSteps_68 rfl (by decide) ?_
          refine PW.goto (pc := 71) (tgt := 2) dX11_laysSteps_71 (by decide) ?_
          exact nx
        have inner : ∀ (N2 : Nat) (i : Int) (I2 : PIm), (3 - i).toNat = N2 → 0 ≤ i → i ≤ 3 → (∀ q, q ≠ 138 → I2 q = I0 q) → (∀ j : Int, 0 ≤ j → j < k → I2 138 j = St P lag fw w j) → I2 138 k = fre (St P lag fw w) k + i → (w = 1 → ∀ i', 0 ≤ i' → i' < i → ¬ rdy P (St P lag fw w) lag fw k (fre (St P lag fw w) k + i')) → (w = 0 → i = 0) → PW sc mX11_laysSteps (d + 5) 0 0 (fun v Γ' I' R' => v = none ∧ Γ' = Γ ∧ R' = R ∧ (∀ q, q ≠ 138 → I' q = I0 q) ∧ ∀ k : Int, 0 ≤ k → k < n → I' 138 k = St P lag fw w k) 36 [some (.inr (some 112)), some (.inl fw), some (.inl w), some (.inl (k : Int))] [] Γ I2 R := by
          intro N2
          induction N2 using Nat.strongRecOn with
          | _ N2 ih2 =>
            intro i I2 hN2 i0 i3 f1 f2 f3 hno hw0
            have RC := fun x => rdy_congr (P := P) (lag := lag) (fw := fw) (k := k) f2 x
            have MG := c_X11_mayGo (sc := sc) (Γ := Γ) (R := R) d (I := I2) (P := P) (n := n) (k := k) (x := fre (St P lag fw w) k + i) (lag := lag) (fw := fw) M (hP.cg (f1 116 (by omega))) hlt (by omega) (by rw [f1 116 (by omega)]; exact hl) (by omega) (fun j j0 j1 => by rw [f2 j j0 j1]; have := hr j j0 (by omega); omega)
            refine PW.iload_n (pc := 36) dX11_laysSteps_36 rfl ?_
            refine PW.if_eq (pc := 37) (tgt := 68) dX11_laysSteps_37 (by decide) (by first | omega | exact rg_of _) (fun c_37 => ?_) (fun c_37 => ?_)
            · refine nx I2 f1 f2 ?_
              first
              | (rw [SE, if_neg (by omega), f3, hw0 c_37]; omega)
              | (rw [SE, if_pos (by omega), f3, wt_is i0 i3 (hno (by omega)) (Or.inr ((RC _).mp (bi1 c_52)))])
            · refine PW.aload_n (pc := 40) dX11_laysSteps_40 rfl ?_
              refine PW.iload_n (pc := 41) dX11_laysSteps_41 rfl ?_
              refine PW.aload_n (pc := 42) dX11_laysSteps_42 rfl ?_
              refine PW.getr (pc := 43) dX11_laysSteps_43 fl_X11_86 M.g112 M.r37 ?_
              refine PW.iload_n (pc := 46) dX11_laysSteps_46 rfl ?_
              refine PW.iald (pc := 47) dX11_laysSteps_47 M.g138 (by omega) (by omega) (by omega) ?_
              rw [f3]
              refine PW.iload_n (pc := 48) dX11_laysSteps_48 rfl ?_
              refine PW.invV0x (pc := 49) dX11_laysSteps_49 mv_X11_206 (MG) M.g112 rfl rfl (Nat.le_of_ble_eq_true rfl) ?_
              refine PW.if_ne (pc := 52) (tgt := 68) dX11_laysSteps_52 (by decide) (rg_bi _) (fun c_52 => ?_) (fun c_52 => ?_)
              · refine nx I2 f1 f2 ?_
                first
                | (rw [SE, if_neg (by omega), f3, hw0 c_37]; omega)
                | (rw [SE, if_pos (by omega), f3, wt_is i0 i3 (hno (by omega)) (Or.inr ((RC _).mp (bi1 c_52)))])
              · refine PW.aload_n (pc := 55) dX11_laysSteps_55 rfl ?_
                refine PW.getr (pc := 56) dX11_laysSteps_56 fl_X11_86 M.g112 M.r37 ?_
                refine PW.iload_n (pc := 59) dX11_laysSteps_59 rfl ?_
                refine PW.dup2 (pc := 60) dX11_laysSteps_60 ?_
                refine PW.iald (pc := 61) dX11_laysSteps_61 M.g138 (by omega) (by omega) (by omega) ?_
                rw [f3]
                refine PW.iconst (pc := 62) dX11_laysSteps_62 ?_
                refine PW.iadd (pc := 63) dX11_laysSteps_63 ?_
                refine PW.iast (pc := 64) dX11_laysSteps_64 M.g138 (by omega) (by omega) (by omega) ?_
                refine PW.goto (pc := 65) (tgt := 36) dX11_laysSteps_65 (by decide) ?_
                exact ih2 _ (by
                    have : i ≠ 3 := fun e => bi0 c_52 ((RC _).mpr (by rw [e]; exact rdy_3 P hl3.2 k))
                    omega) (i + 1) _ rfl (by omega) (by
                    have : i ≠ 3 := fun e => bi0 c_52 ((RC _).mpr (by rw [e]; exact rdy_3 P hl3.2 k))
                    omega) (fun q hq => by rw [pw_up_ne q hq, f1 q hq]) (fun j j0 j1 => by rw [pw_up_other (by omega)]; exact f2 j j0 j1) (by rw [pw_up_self]; omega) (fun w1 i' q0 q1 => by
                    by_cases e : i' = i
                    · rw [e]; exact fun o => bi0 c_52 ((RC _).mpr o)
                    · exact hno w1 i' q0 (by omega)) (fun q => by omega)
        by_cases k0 : k = 0
        · refine PW.iload_n (pc := 2) dX11_laysSteps_2 rfl ?_
          refine PW.aload_n (pc := 3) dX11_laysSteps_3 rfl ?_
          refine PW.getr (pc := 4) dX11_laysSteps_4 fl_X11_20 M.g112 M.r5 ?_
          refine PW.iconst (pc := 7) dX11_laysSteps_7 ?_
          refine PW.iald (pc := 8) dX11_laysSteps_8 M.g116 (by omega) (by omega) (by omega) ?_
          rw [e0]
          refine PW.icmp_ge (pc := 9) (tgt := 74) dX11_laysSteps_9 (by decide) (by first | omega | exact rg_of _) (by first | omega | exact rg_of _) (fun c_9 => ?_) (fun c_9 => ?_)
          · omega
          · refine PW.aload_n (pc := 12) dX11_laysSteps_12 rfl ?_
            refine PW.getr (pc := 13) dX11_laysSteps_13 fl_X11_86 M.g112 M.r37 ?_
            refine PW.iload_n (pc := 16) dX11_laysSteps_16 rfl ?_
            refine PW.iload_n (pc := 17) dX11_laysSteps_17 rfl ?_
            refine PW.if_ne (pc := 18) (tgt := 25) dX11_laysSteps_18 (by decide) (by first | omega | exact rg_of _) (fun c_18 => ?_) (fun c_18 => ?_)
            · omega
            · refine PW.iconst (pc := 21) dX11_laysSteps_21 ?_
              refine PW.goto (pc := 22) (tgt := 35) dX11_laysSteps_22 (by decide) ?_
              refine PW.iast (pc := 35) dX11_laysSteps_35 M.g138 (by omega) (by omega) (by omega) ?_
              exact inner _ 0 _ rfl (by omega) (by omega) (fun q hq => by rw [pw_up_ne q hq, fr q hq]) (fun j j0 j1 => by omega) (by rw [pw_up_self]; unfold fre; rw [if_pos k0]; rfl) (fun _ i' q0 q1 => by omega) (fun _ => rfl)
        · refine PW.iload_n (pc := 2) dX11_laysSteps_2 rfl ?_
          refine PW.aload_n (pc := 3) dX11_laysSteps_3 rfl ?_
          refine PW.getr (pc := 4) dX11_laysSteps_4 fl_X11_20 M.g112 M.r5 ?_
          refine PW.iconst (pc := 7) dX11_laysSteps_7 ?_
          refine PW.iald (pc := 8) dX11_laysSteps_8 M.g116 (by omega) (by omega) (by omega) ?_
          rw [e0]
          refine PW.icmp_ge (pc := 9) (tgt := 74) dX11_laysSteps_9 (by decide) (by first | omega | exact rg_of _) (by first | omega | exact rg_of _) (fun c_9 => ?_) (fun c_9 => ?_)
          · omega
          · refine PW.aload_n (pc := 12) dX11_laysSteps_12 rfl ?_
            refine PW.getr (pc := 13) dX11_laysSteps_13 fl_X11_86 M.g112 M.r37 ?_
            refine PW.iload_n (pc := 16) dX11_laysSteps_16 rfl ?_
            refine PW.iload_n (pc := 17) dX11_laysSteps_17 rfl ?_
            refine PW.if_ne (pc := 18) (tgt := 25) dX11_laysSteps_18 (by decide) (by first | omega | exact rg_of _) (fun c_18 => ?_) (fun c_18 => ?_)
            · refine PW.aload_n (pc := 25) dX11_laysSteps_25 rfl ?_
              refine PW.getr (pc := 26) dX11_laysSteps_26 fl_X11_86 M.g112 M.r37 ?_
              refine PW.iload_n (pc := 29) dX11_laysSteps_29 rfl ?_
              refine PW.iconst (pc := 30) dX11_laysSteps_30 ?_
              refine PW.isub (pc := 31) dX11_laysSteps_31 ?_
              refine PW.iald (pc := 32) dX11_laysSteps_32 M.g138 (by omega) (by omega) (by omega) ?_
              rw [hS _ (by omega) (by omega)]
              refine PW.iconst (pc := 33) dX11_laysSteps_33 ?_
              refine PW.iadd (pc := 34) dX11_laysSteps_34 ?_
              refine PW.iast (pc := 35) dX11_laysSteps_35 M.g138 (by omega) (by omega) (by omega) ?_
              exact inner _ 0 _ rfl (by omega) (by omega) (fun q hq => by rw [pw_up_ne q hq, fr q hq]) (fun j j0 j1 => by rw [pw_up_other (by omega)]; exact hS j j0 j1) (by rw [pw_up_self]; unfold fre; rw [if_neg k0]; omega) (fun _ i' q0 q1 => by omega) (fun _ => rfl)
            · omega
      · obtain rfl : k = n := by omega
        refine PW.iload_n (pc := 2) dX11_laysSteps_2 rfl ?_
        refine PW.aload_n (pc := 3) dX11_laysSteps_3 rfl ?_
        refine PW.getr (pc := 4) dX11_laysSteps_4 fl_X11_20 M.g112 M.r5 ?_
        refine PW.iconst (pc := 7) dX11_laysSteps_7 ?_
        refine PW.iald (pc := 8) dX11_laysSteps_8 M.g116 (by omega) (by omega) (by omega) ?_
        rw [e0]
        refine PW.icmp_ge (pc := 9) (tgt := 74) dX11_laysSteps_9 (by decide) (by first | omega | exact rg_of _) (by first | omega | exact rg_of _) (fun c_9 => ?_) (fun c_9 => ?_)
        · exact PW.vreturn (pc := 74) dX11_laysSteps_74 rfl (⟨rfl, rfl, rfl, fr, hS⟩)
        · omega
  refine PC.ofPW (by decide) (Nat.le_of_ble_eq_true rfl) ?_
  refine PW.iconst (pc := 0) dX11_laysSteps_0 ?_
  refine PW.istore_n (pc := 1) dX11_laysSteps_1 (by decide) ?_
  exact loop n 0 I0 rfl (by omega) (fun _ _ => rfl) (fun j j0 j1 => by omega)
/-- which makers are seen -/
def MV (P : Int → Int) (lag fw w b : Int) (k j : Int) : Bool := if b = 0 then true else Vp P lag fw w k j
set_option maxRecDepth 100000 in
set_option maxHeartbeats 1000000 in
theorem c_X11_readBy (d : Nat) {I : PIm} {P : Int → Int} {n k : Nat} {lag fw w b r : Int} {tb : Int → Tm} {Mk : Int → Tm} (M : MAt Γ R) (hP : ProgM I P n) (hk : k < n) (hl : I 116 26 = lag) (hl3 : 0 ≤ lag ∧ lag ≤ 3) (hb : b = 0 ∨ b = 1) (hr : 0 ≤ r ∧ r < 4) (T : MTab I (I 112 13) tb) (hS : ∀ j : Int, 0 ≤ j → j < n → I 138 j = St P lag fw w j) (hm : ∀ j : Int, 0 ≤ j → j < k → kd (P j) ≠ 0 → 0 ≤ I 139 j ∧ I 139 j < I 112 13 ∧ tb (I 139 j) = Mk j) : PC sc mX11_readBy (d + 2) 0 0 [.inr (some 112), .inl (k : Int), .inl r, .inl fw, .inl b] Γ I R (fun v Γ' I' R' => Γ' = Γ ∧ I' = I ∧ R' = R ∧ ∃ i, v = some (.inl i) ∧ (0 ≤ i ∧ i < I 112 13) ∧ tb i = rdT P Mk (MV P lag fw w b k) k r) := by
  have hn6 := hP.2.1
  have h4 := T.1
  have hrS : ∀ j : Int, 0 ≤ j → j < n → 0 ≤ St P lag fw w j ∧ St P lag fw w j ≤ 100 := fun j j0 j1 => by have := St_rg' P lag fw w j0; omega
  have sk := hrS k (by omega) (by omega)
  have loop : ∀ (j : Nat), j ≤ k → rdT P Mk (MV P lag fw w b k) k r = rdT P Mk (MV P lag fw w b k) j r → PW sc mX11_readBy (d + 2) 0 0 (fun v Γ' I' R' => Γ' = Γ ∧ I' = I ∧ R' = R ∧ ∃ i, v = some (.inl i) ∧ (0 ≤ i ∧ i < I 112 13) ∧ tb i = rdT P Mk (MV P lag fw w b k) k r) 5 [some (.inr (some 112)), some (.inl (k : Int)), some (.inl r), some (.inl fw), some (.inl b), some (.inl ((j : Int) - 1))] [] Γ I R := by
    intro j
    induction j with
    | zero =>
      intro hj he
      refine PW.iload (pc := 5) dX11_readBy_5 rfl ?_
      refine PW.if_lt (pc := 7) (tgt := 61) dX11_readBy_7 (by decide) (by first | omega | exact rg_of _) (fun c_7 => ?_) (fun c_7 => ?_)
      · refine PW.iload_n (pc := 61) dX11_readBy_61 rfl ?_
        exact PW.ireturn (pc := 62) dX11_readBy_62 rfl (⟨rfl, rfl, rfl, r, rfl, by omega, by rw [he, rdT]; exact T.const hr.1 hr.2⟩)
      · omega
    | succ j ih =>
      intro hj he
      rw [rdT] at he
      have e : (((j + 1 : Nat) : Int) - 1) = (j : Int) := by omega
      rw [e]
      have sj := hrS j (by omega) (by omega)
      have MK := c_X11_makes (sc := sc) (Γ := Γ) (R := R) d M hP (k := (j : Int)) (r := r) (by omega) (by omega) (by omega)
      have VV := c_X11_isVisible (sc := sc) (Γ := Γ) (R := R) (I := I) d (x := St P lag fw w k - St P lag fw w j) (lag := lag) (fw := fw) M hl (by omega) (by omega)
      refine PW.iload (pc := 5) dX11_readBy_5 rfl ?_
      refine PW.if_lt (pc := 7) (tgt := 61) dX11_readBy_7 (by decide) (by first | omega | exact rg_of _) (fun c_7 => ?_) (fun c_7 => ?_)
      · omega
      · refine PW.aload_n (pc := 10) dX11_readBy_10 rfl ?_
        refine PW.iload (pc := 11) dX11_readBy_11 rfl ?_
        refine PW.iload_n (pc := 13) dX11_readBy_13 rfl ?_
        refine PW.invV0x (pc := 14) dX11_readBy_14 mv_X11_193 (MK) M.g112 rfl rfl (Nat.le_of_ble_eq_true rfl) ?_
        refine PW.if_eq (pc := 17) (tgt := 55) dX11_readBy_17 (by decide) (rg_bi _) (fun c_17 => ?_) (fun c_17 => ?_)
        · refine PW.iinc (pc := 55) dX11_readBy_55 rfl (by decide) ?_
          refine PW.goto (pc := 58) (tgt := 5) dX11_readBy_58 (by decide) ?_
          refine ih (by omega) ?_
          first
          | (rw [he, if_neg (fun o => bi0 c_17 o.1)])
          | (rw [he, if_neg (fun o => by
              have := o.2
              unfold MV at this
              rw [if_neg c_22] at this
              exact bi0 c_44 (of_decide_eq_true this))])
        · refine PW.iload (pc := 20) dX11_readBy_20 rfl ?_
          refine PW.if_eq (pc := 22) (tgt := 47) dX11_readBy_22 (by decide) (by first | omega | exact rg_of _) (fun c_22 => ?_) (fun c_22 => ?_)
          · refine PW.aload_n (pc := 47) dX11_readBy_47 rfl ?_
            refine PW.getr (pc := 48) dX11_readBy_48 fl_X11_89 M.g112 M.r38 ?_
            refine PW.iload (pc := 51) dX11_readBy_51 rfl ?_
            refine PW.iald (pc := 53) dX11_readBy_53 M.g139 (by omega) (by omega) (by omega) ?_
            exact PW.ireturn (pc := 54) dX11_readBy_54 rfl (by
            obtain ⟨x1, x2, x3⟩ := hm j (by omega) (by omega) (bi1 c_17).1
            have hv : MV P lag fw w b k j = true := by
              unfold MV
              first
              | exact if_pos c_22
              | (rw [if_neg c_22]; unfold Vp; exact decide_eq_true (bi1 c_44))
            refine ⟨rfl, rfl, rfl, _, rfl, ⟨x1, x2⟩, ?_⟩
            rw [he, if_pos ⟨bi1 c_17, hv⟩]
            exact x3)
          · refine PW.aload_n (pc := 25) dX11_readBy_25 rfl ?_
            refine PW.aload_n (pc := 26) dX11_readBy_26 rfl ?_
            refine PW.getr (pc := 27) dX11_readBy_27 fl_X11_86 M.g112 M.r37 ?_
            refine PW.iload_n (pc := 30) dX11_readBy_30 rfl ?_
            refine PW.iald (pc := 31) dX11_readBy_31 M.g138 (by omega) (by omega) (by omega) ?_
            rw [hS k (by omega) (by omega)]
            refine PW.aload_n (pc := 32) dX11_readBy_32 rfl ?_
            refine PW.getr (pc := 33) dX11_readBy_33 fl_X11_86 M.g112 M.r37 ?_
            refine PW.iload (pc := 36) dX11_readBy_36 rfl ?_
            refine PW.iald (pc := 38) dX11_readBy_38 M.g138 (by omega) (by omega) (by omega) ?_
            rw [hS j (by omega) (by omega)]
            refine PW.isub (pc := 39) dX11_readBy_39 ?_
            refine PW.iload_n (pc := 40) dX11_readBy_40 rfl ?_
            refine PW.invV0x (pc := 41) dX11_readBy_41 mv_X11_199 (VV) M.g112 rfl rfl (Nat.le_of_ble_eq_true rfl) ?_
            refine PW.if_eq (pc := 44) (tgt := 55) dX11_readBy_44 (by decide) (rg_bi _) (fun c_44 => ?_) (fun c_44 => ?_)
            · refine PW.iinc (pc := 55) dX11_readBy_55 rfl (by decide) ?_
              refine PW.goto (pc := 58) (tgt := 5) dX11_readBy_58 (by decide) ?_
              refine ih (by omega) ?_
              first
              | (rw [he, if_neg (fun o => bi0 c_17 o.1)])
              | (rw [he, if_neg (fun o => by
                  have := o.2
                  unfold MV at this
                  rw [if_neg c_22] at this
                  exact bi0 c_44 (of_decide_eq_true this))])
            · refine PW.aload_n (pc := 47) dX11_readBy_47 rfl ?_
              refine PW.getr (pc := 48) dX11_readBy_48 fl_X11_89 M.g112 M.r38 ?_
              refine PW.iload (pc := 51) dX11_readBy_51 rfl ?_
              refine PW.iald (pc := 53) dX11_readBy_53 M.g139 (by omega) (by omega) (by omega) ?_
              exact PW.ireturn (pc := 54) dX11_readBy_54 rfl (by
              obtain ⟨x1, x2, x3⟩ := hm j (by omega) (by omega) (bi1 c_17).1
              have hv : MV P lag fw w b k j = true := by
                unfold MV
                first
                | exact if_pos c_22
                | (rw [if_neg c_22]; unfold Vp; exact decide_eq_true (bi1 c_44))
              refine ⟨rfl, rfl, rfl, _, rfl, ⟨x1, x2⟩, ?_⟩
              rw [he, if_pos ⟨bi1 c_17, hv⟩]
              exact x3)
  refine PC.ofPW (by decide) (Nat.le_of_ble_eq_true rfl) ?_
  refine PW.iload_n (pc := 0) dX11_readBy_0 rfl ?_
  refine PW.iconst (pc := 1) dX11_readBy_1 ?_
  refine PW.isub (pc := 2) dX11_readBy_2 ?_
  refine PW.istore (pc := 3) dX11_readBy_3 (by decide) ?_
  exact loop k (by omega) rfl
/-- the reference's terms, grown -/
def MGrow (I0 I : PIm) (tb0 tb : Int → Tm) (S : Tm → Prop) : Prop := MTab I (I 112 13) tb ∧ I0 112 13 ≤ I 112 13 ∧ (∀ j, j < I0 112 13 → tb j = tb0 j) ∧ (∀ j, 0 ≤ j → j < I 112 13 → j < I0 112 13 ∨ S (tb j)) ∧ ∀ t, S t → ∃ j, 0 ≤ j ∧ j < I 112 13 ∧ tb j = t
set_option maxRecDepth 100000 in
set_option maxHeartbeats 1000000 in
theorem MGrow.made {I0 I I' : PIm} {tb0 tb tb' : Int → Tm} {S S' : Tm → Prop} {t : Tm} {i : Int} (G : MGrow I0 I tb0 tb S) (Md : MMade I I' tb tb' t i) (hs : ∀ u, S' u ↔ S u ∨ u = t) : MGrow I0 I' tb0 tb' S' := by
  obtain ⟨g1, g2, g3, g4, g5⟩ := G
  obtain ⟨m1, m2, m3, m4, m5, m6, m7⟩ := Md
  refine ⟨m3, by omega, fun j hj => by rw [m5 j (by omega), g3 j hj], fun j h0 h1 => ?_, fun u hu => ?_⟩
  · rcases m6 j h1 with q | q
    · rcases g4 j h0 q with w | w
      · exact Or.inl w
      · exact Or.inr ((hs _).mpr (Or.inl (by rw [m5 j q]; exact w)))
    · exact Or.inr ((hs _).mpr (Or.inr q))
  · rcases (hs u).mp hu with q | q
    · obtain ⟨j, j0, j1, j2⟩ := g5 u q
      exact ⟨j, j0, by omega, by rw [m5 j j1]; exact j2⟩
    · exact ⟨i, m1.1, m1.2, by rw [q]; exact m2⟩
set_option maxRecDepth 100000 in
set_option maxHeartbeats 1000000 in
theorem MGrow.sub {I0 I : PIm} {tb0 tb : Int → Tm} {S S' : Tm → Prop} (G : MGrow I0 I tb0 tb S) (hs : ∀ t, S' t ↔ S t) : MGrow I0 I tb0 tb S' := by
  obtain ⟨g1, g2, g3, g4, g5⟩ := G
  exact ⟨g1, g2, g3, fun j h0 h1 => (g4 j h0 h1).imp id (hs _).mpr, fun t h => g5 t ((hs t).mp h)⟩
set_option maxRecDepth 100000 in
set_option maxHeartbeats 1000000 in
theorem MGrow.cg {I0 I I' : PIm} {tb0 tb : Int → Tm} {S : Tm → Prop} (G : MGrow I0 I tb0 tb S) (h : ∀ q, 122 ≤ q → q ≤ 124 → I' q = I q) (h13 : I' 112 13 = I 112 13) : MGrow I0 I' tb0 tb S := by
  obtain ⟨g1, g2, g3, g4, g5⟩ := G
  unfold MGrow
  rw [h13]
  exact ⟨g1.cg (fun q a b k _ _ => by rw [h q a b]), g2, g3, g4, g5⟩
end MGO
