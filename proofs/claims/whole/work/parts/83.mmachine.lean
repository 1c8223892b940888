section MMACHINE
variable {sc : PSc} {Γ : List PTy} {R : PRm}
set_option maxRecDepth 100000 in
set_option maxHeartbeats 1000000 in
theorem pItem0_rg {tx : Int → Int} {n : Int} {σ : PS} {p : Int} (hp : p ≤ n) : (p ≤ (pItem0 tx n σ p).2 ∧ (pItem0 tx n σ p).2 ≤ n) ∧ True := by
  refine ⟨?_, True.intro⟩
  have hs := skp_ge tx hp
  have lt : ∀ c, tok tx n p = c → c ≠ -1 → skp tx n p + 1 ≤ n := fun c h h' => by have := tok_lt (tx := tx) (n := n) (p := p) (by omega); omega
  have fa : ∀ e, skp tx n p + 1 ≤ n → (p ≤ (pFact0 tx n σ e (skp tx n p + 1)).2 ∧ (pFact0 tx n σ e (skp tx n p + 1)).2 ≤ n) := fun e hl => by
    unfold pFact0
    have r1 := (pT_rg (tx := tx) (n := n) 4 (skp tx n p + 1) hl).1
    rcases h1 : pT tx n 4 (skp tx n p + 1) with ⟨_ | a, p1⟩
    · rw [h1] at r1
      dsimp only at r1 ⊢
      omega
    · rw [h1] at r1
      dsimp only at r1 ⊢
      have r2 := (pT_rg (tx := tx) (n := n) 4 p1 (by omega)).1
      rcases h2 : pT tx n 4 p1 with ⟨_ | b, p2⟩
      · rw [h2] at r2
        dsimp only at r2 ⊢
        omega
      · rw [h2] at r2
        dsimp only at r2 ⊢
        omega
  have ins : ∀ k, skp tx n p + 1 ≤ n → (p ≤ (pIns0 tx n σ k (skp tx n p + 1)).2 ∧ (pIns0 tx n σ k (skp tx n p + 1)).2 ≤ n) := fun k hl => by
    unfold pIns0
    have r1 := (pF_rg (tx := tx) (n := n) (if k = 0 then 0 else k + 1) (skp tx n p + 1) 0 (by omega) hl).1
    rcases h1 : pF tx n (if k = 0 then 0 else k + 1) (skp tx n p + 1) 0 with ⟨_ | v, p1⟩
    · rw [h1] at r1
      dsimp only at r1 ⊢
      omega
    · rw [h1] at r1
      dsimp only at r1 ⊢
      omega
  unfold pItem0
  split
  next h =>
    split
    · dsimp only; omega
    · exact fa _ (by rcases h with h | h; exact lt _ h (by decide); exact lt _ h (by decide))
  · split
    next h =>
      split
      · dsimp only; omega
      · exact ins 0 (lt _ h (by decide))
    · split
      next h =>
        split
        · dsimp only; omega
        · exact ins 1 (lt _ h (by decide))
      · split
        next h =>
          split
          · dsimp only; omega
          · exact ins 2 (lt _ h (by decide))
        · dsimp only; omega
def macRes (s : CS) (res : Option PS × Int) : Int × CS := match res with
  | (none, f) => (-10 - f, s)
  | (some σ, _) => ((σ.1.1 : Int) + (σ.2.2 : Int), ((cTx s, 0), σ.1, (σ.2.1, σ.2.2, 2, 0, 0, pw_shl 1 (σ.1.1 : Int) - 1), (0, cHs s), (fun _ => (0, cNow s)), (0, cSeen s)))
/-- what the reading leaves alone, and what was put aside -/
def MFr (I1 J : PIm) (w : Int) : Prop := (∀ q z, ¬ ((q = 112 ∧ (z = 13 ∨ z = 14 ∨ (22 ≤ z ∧ z ≤ 25) ∨ z = 29)) ∨ (122 ≤ q ∧ q ≤ 124) ∨ (128 ≤ q ∧ q ≤ 136)) → J q z = I1 q z) ∧ ∀ j : Int, 0 ≤ j → j < w → J 134 j = I1 122 j ∧ J 135 j = I1 123 j ∧ J 136 j = I1 124 j
set_option maxRecDepth 100000 in
set_option maxHeartbeats 1000000 in
theorem MFr.go {I1 J J2 : PIm} {w : Int} (h : MFr I1 J w) (e : ∀ q z, ¬ ((q = 112 ∧ (z = 13 ∨ z = 14 ∨ (22 ≤ z ∧ z ≤ 25) ∨ z = 29)) ∨ (122 ≤ q ∧ q ≤ 124) ∨ (128 ≤ q ∧ q ≤ 133)) → J2 q z = J q z) : MFr I1 J2 w := by
  refine ⟨fun q z g => by rw [e q z (by omega), h.1 q z g], fun j j0 j1 => ?_⟩
  rw [e 134 j (by omega), e 135 j (by omega), e 136 j (by omega)]
  exact h.2 j j0 j1
set_option maxRecDepth 100000 in
set_option maxHeartbeats 1000000 in
theorem lp_aside (d : Nat) {I1 : PIm} {post : PPost} {w : Nat} (M : MAt Γ R) (hw : w ≤ 200) (K : ∀ J : PIm, MFr I1 J w → (∀ q, ¬ (134 ≤ q ∧ q ≤ 136) → J q = I1 q) → PW sc mX11_machine d 0 0 post 59 [some (.inr (some 112)), some (.inl (w : Int)), some (.inl (w : Int)), none, none] [] Γ J R) : PW sc mX11_machine d 0 0 post 12 [some (.inr (some 112)), some (.inl (w : Int)), some (.inl 0), none, none] [] Γ I1 R := by
  have loop : ∀ (N k : Nat) (J : PIm), w - k = N → k ≤ w → (∀ q, ¬ (134 ≤ q ∧ q ≤ 136) → J q = I1 q) → (∀ j : Int, 0 ≤ j → j < k → J 134 j = I1 122 j ∧ J 135 j = I1 123 j ∧ J 136 j = I1 124 j) → PW sc mX11_machine d 0 0 post 12 [some (.inr (some 112)), some (.inl (w : Int)), some (.inl (k : Int)), none, none] [] Γ J R := by
    intro N
    induction N using Nat.strongRecOn with
    | _ N ih =>
      intro k J hN hk fr rws
      by_cases hl : k < w
      · have e1 : J 122 k = I1 122 k := by rw [fr 122 (by omega)]
        have e2 : pw_up J 134 k (I1 122 k) 123 k = I1 123 k := by rw [pw_up_other (by omega), fr 123 (by omega)]
        have e3 : pw_up (pw_up J 134 k (I1 122 k)) 135 k (I1 123 k) 124 k = I1 124 k := by rw [pw_up_other (by omega), pw_up_other (by omega), fr 124 (by omega)]
        have y : ∀ q z, ¬ ((134 ≤ q ∧ q ≤ 136) ∧ z = (k : Int)) → pw_up (pw_up (pw_up J 134 k (I1 122 k)) 135 k (I1 123 k)) 136 k (I1 124 k) q z = J q z := fun q z g => by rw [pw_up_other (by omega), pw_up_other (by omega), pw_up_other (by omega)]
        have y1 : pw_up (pw_up (pw_up J 134 k (I1 122 k)) 135 k (I1 123 k)) 136 k (I1 124 k) 134 k = I1 122 k := by rw [pw_up_other (by omega), pw_up_other (by omega), pw_up_self]
        have y2 : pw_up (pw_up (pw_up J 134 k (I1 122 k)) 135 k (I1 123 k)) 136 k (I1 124 k) 135 k = I1 123 k := by rw [pw_up_other (by omega), pw_up_self]
        have y3 : pw_up (pw_up (pw_up J 134 k (I1 122 k)) 135 k (I1 123 k)) 136 k (I1 124 k) 136 k = I1 124 k := pw_up_self _ _ _ _
        have r := ih (w - (k + 1)) (by omega) (k + 1) (pw_up (pw_up (pw_up J 134 k (I1 122 k)) 135 k (I1 123 k)) 136 k (I1 124 k)) rfl (by omega) (fun q g => by rw [← fr q g]; funext z; exact y q z (by omega)) (fun j j0 j1 => by
          by_cases q : j = (k : Int)
          · subst q; rw [y1, y2, y3]; exact ⟨rfl, rfl, rfl⟩
          · rw [y _ _ (by omega), y _ _ (by omega), y _ _ (by omega)]; exact rws j j0 (by omega))
        refine PW.iload_n (pc := 12) dX11_machine_12 rfl ?_
        refine PW.iload_n (pc := 13) dX11_machine_13 rfl ?_
        refine PW.icmp_ge (pc := 14) (tgt := 59) dX11_machine_14 (by decide) (by first | omega | exact rg_of _) (by first | omega | exact rg_of _) (fun c_14 => ?_) (fun c_14 => ?_)
        · omega
        · refine PW.aload_n (pc := 17) dX11_machine_17 rfl ?_
          refine PW.getr (pc := 18) dX11_machine_18 fl_X11_74 M.g112 M.r33 ?_
          refine PW.iload_n (pc := 21) dX11_machine_21 rfl ?_
          refine PW.aload_n (pc := 22) dX11_machine_22 rfl ?_
          refine PW.getr (pc := 23) dX11_machine_23 fl_X11_38 M.g112 M.r15 ?_
          refine PW.iload_n (pc := 26) dX11_machine_26 rfl ?_
          refine PW.iald (pc := 27) dX11_machine_27 M.g122 (by omega) (by omega) (by omega) ?_
          rw [e1]
          refine PW.iast (pc := 28) dX11_machine_28 M.g134 (by omega) (by omega) (by omega) ?_
          refine PW.aload_n (pc := 29) dX11_machine_29 rfl ?_
          refine PW.getr (pc := 30) dX11_machine_30 fl_X11_77 M.g112 M.r34 ?_
          refine PW.iload_n (pc := 33) dX11_machine_33 rfl ?_
          refine PW.aload_n (pc := 34) dX11_machine_34 rfl ?_
          refine PW.getr (pc := 35) dX11_machine_35 fl_X11_41 M.g112 M.r16 ?_
          refine PW.iload_n (pc := 38) dX11_machine_38 rfl ?_
          refine PW.iald (pc := 39) dX11_machine_39 M.g123 (by omega) (by omega) (by omega) ?_
          rw [e2]
          refine PW.iast (pc := 40) dX11_machine_40 M.g135 (by omega) (by omega) (by omega) ?_
          refine PW.aload_n (pc := 41) dX11_machine_41 rfl ?_
          refine PW.getr (pc := 42) dX11_machine_42 fl_X11_80 M.g112 M.r35 ?_
          refine PW.iload_n (pc := 45) dX11_machine_45 rfl ?_
          refine PW.aload_n (pc := 46) dX11_machine_46 rfl ?_
          refine PW.getr (pc := 47) dX11_machine_47 fl_X11_44 M.g112 M.r17 ?_
          refine PW.iload_n (pc := 50) dX11_machine_50 rfl ?_
          refine PW.iald (pc := 51) dX11_machine_51 M.g124 (by omega) (by omega) (by omega) ?_
          rw [e3]
          refine PW.iast (pc := 52) dX11_machine_52 M.g136 (by omega) (by omega) (by omega) ?_
          refine PW.iinc (pc := 53) dX11_machine_53 rfl (by decide) ?_
          refine PW.goto (pc := 56) (tgt := 12) dX11_machine_56 (by decide) ?_
          exact r
      · obtain rfl : k = w := by omega
        refine PW.iload_n (pc := 12) dX11_machine_12 rfl ?_
        refine PW.iload_n (pc := 13) dX11_machine_13 rfl ?_
        refine PW.icmp_ge (pc := 14) (tgt := 59) dX11_machine_14 (by decide) (by first | omega | exact rg_of _) (by first | omega | exact rg_of _) (fun c_14 => ?_) (fun c_14 => ?_)
        · exact K J ⟨fun q z g => by rw [fr q (by omega)], rws⟩ fr
        · omega
  exact loop w 0 I1 (by omega) (by omega) (fun _ _ => rfl) (fun j j0 j1 => by omega)
set_option maxRecDepth 100000 in
set_option maxHeartbeats 1000000 in
theorem lp_restore (d : Nat) {I1 J0 : PIm} {post : PPost} {w : Nat} {it f : Int} {o3 o4 : Option PV} (M : MAt Γ R) (hw : w ≤ 200) (F : MFr I1 J0 w) (hf : J0 112 23 = f) (K : ∀ J : PIm, (∀ q z, ¬ ((q = 112 ∧ (z = 13 ∨ z = 14 ∨ (22 ≤ z ∧ z ≤ 25) ∨ z = 29)) ∨ (122 ≤ q ∧ q ≤ 124) ∨ (128 ≤ q ∧ q ≤ 136)) → J q z = I1 q z) → J 112 14 = w → (∀ q, 122 ≤ q → q ≤ 124 → ∀ j : Int, 0 ≤ j → j < w → J q j = I1 q j) → post (some (.inl (-10 - f))) Γ J R) : PW sc mX11_machine d 0 0 post 108 [some (.inr (some 112)), some (.inl (w : Int)), some (.inl it), o3, o4] [] Γ J0 R := by
  have loop : ∀ (N k : Nat) (J : PIm), w - k = N → k ≤ w → (∀ q, ¬ (122 ≤ q ∧ q ≤ 124) → J q = J0 q) → (∀ j : Int, 0 ≤ j → j < k → J 122 j = I1 122 j ∧ J 123 j = I1 123 j ∧ J 124 j = I1 124 j) → PW sc mX11_machine d 0 0 post 111 [some (.inr (some 112)), some (.inl (w : Int)), some (.inl it), o3, some (.inl (k : Int))] [] Γ J R := by
    intro N
    induction N using Nat.strongRecOn with
    | _ N ih =>
      intro k J hN hk fr rws
      by_cases hl : k < w
      · obtain ⟨b1, b2, b3⟩ := F.2 k (by omega) (by omega)
        have e1 : J 134 k = I1 122 k := by rw [fr 134 (by omega)]; exact b1
        have e2 : pw_up J 122 k (I1 122 k) 135 k = I1 123 k := by rw [pw_up_other (by omega), fr 135 (by omega)]; exact b2
        have e3 : pw_up (pw_up J 122 k (I1 122 k)) 123 k (I1 123 k) 136 k = I1 124 k := by rw [pw_up_other (by omega), pw_up_other (by omega), fr 136 (by omega)]; exact b3
        have y : ∀ q z, ¬ ((122 ≤ q ∧ q ≤ 124) ∧ z = (k : Int)) → pw_up (pw_up (pw_up J 122 k (I1 122 k)) 123 k (I1 123 k)) 124 k (I1 124 k) q z = J q z := fun q z g => by rw [pw_up_other (by omega), pw_up_other (by omega), pw_up_other (by omega)]
        have y1 : pw_up (pw_up (pw_up J 122 k (I1 122 k)) 123 k (I1 123 k)) 124 k (I1 124 k) 122 k = I1 122 k := by rw [pw_up_other (by omega), pw_up_other (by omega), pw_up_self]
        have y2 : pw_up (pw_up (pw_up J 122 k (I1 122 k)) 123 k (I1 123 k)) 124 k (I1 124 k) 123 k = I1 123 k := by rw [pw_up_other (by omega), pw_up_self]
        have y3 : pw_up (pw_up (pw_up J 122 k (I1 122 k)) 123 k (I1 123 k)) 124 k (I1 124 k) 124 k = I1 124 k := pw_up_self _ _ _ _
        have r := ih (w - (k + 1)) (by omega) (k + 1) (pw_up (pw_up (pw_up J 122 k (I1 122 k)) 123 k (I1 123 k)) 124 k (I1 124 k)) rfl (by omega) (fun q g => by rw [← fr q g]; funext z; exact y q z (by omega)) (fun j j0 j1 => by
          by_cases q : j = (k : Int)
          · subst q; rw [y1, y2, y3]; exact ⟨rfl, rfl, rfl⟩
          · rw [y _ _ (by omega), y _ _ (by omega), y _ _ (by omega)]; exact rws j j0 (by omega))
        refine PW.iload (pc := 111) dX11_machine_111 rfl ?_
        refine PW.iload_n (pc := 113) dX11_machine_113 rfl ?_
        refine PW.icmp_ge (pc := 114) (tgt := 165) dX11_machine_114 (by decide) (by first | omega | exact rg_of _) (by first | omega | exact rg_of _) (fun c_114 => ?_) (fun c_114 => ?_)
        · omega
        · refine PW.aload_n (pc := 117) dX11_machine_117 rfl ?_
          refine PW.getr (pc := 118) dX11_machine_118 fl_X11_38 M.g112 M.r15 ?_
          refine PW.iload (pc := 121) dX11_machine_121 rfl ?_
          refine PW.aload_n (pc := 123) dX11_machine_123 rfl ?_
          refine PW.getr (pc := 124) dX11_machine_124 fl_X11_74 M.g112 M.r33 ?_
          refine PW.iload (pc := 127) dX11_machine_127 rfl ?_
          refine PW.iald (pc := 129) dX11_machine_129 M.g134 (by omega) (by omega) (by omega) ?_
          rw [e1]
          refine PW.iast (pc := 130) dX11_machine_130 M.g122 (by omega) (by omega) (by omega) ?_
          refine PW.aload_n (pc := 131) dX11_machine_131 rfl ?_
          refine PW.getr (pc := 132) dX11_machine_132 fl_X11_41 M.g112 M.r16 ?_
          refine PW.iload (pc := 135) dX11_machine_135 rfl ?_
          refine PW.aload_n (pc := 137) dX11_machine_137 rfl ?_
          refine PW.getr (pc := 138) dX11_machine_138 fl_X11_77 M.g112 M.r34 ?_
          refine PW.iload (pc := 141) dX11_machine_141 rfl ?_
          refine PW.iald (pc := 143) dX11_machine_143 M.g135 (by omega) (by omega) (by omega) ?_
          rw [e2]
          refine PW.iast (pc := 144) dX11_machine_144 M.g123 (by omega) (by omega) (by omega) ?_
          refine PW.aload_n (pc := 145) dX11_machine_145 rfl ?_
          refine PW.getr (pc := 146) dX11_machine_146 fl_X11_44 M.g112 M.r17 ?_
          refine PW.iload (pc := 149) dX11_machine_149 rfl ?_
          refine PW.aload_n (pc := 151) dX11_machine_151 rfl ?_
          refine PW.getr (pc := 152) dX11_machine_152 fl_X11_80 M.g112 M.r35 ?_
          refine PW.iload (pc := 155) dX11_machine_155 rfl ?_
          refine PW.iald (pc := 157) dX11_machine_157 M.g136 (by omega) (by omega) (by omega) ?_
          rw [e3]
          refine PW.iast (pc := 158) dX11_machine_158 M.g124 (by omega) (by omega) (by omega) ?_
          refine PW.iinc (pc := 159) dX11_machine_159 rfl (by decide) ?_
          refine PW.goto (pc := 162) (tgt := 111) dX11_machine_162 (by decide) ?_
          exact r
      · obtain rfl : k = w := by omega
        have y23 : pw_up J 112 14 (k : Int) 112 23 = f := by rw [pw_up_other (by omega), fr 112 (by omega)]; exact hf
        refine PW.iload (pc := 111) dX11_machine_111 rfl ?_
        refine PW.iload_n (pc := 113) dX11_machine_113 rfl ?_
        refine PW.icmp_ge (pc := 114) (tgt := 165) dX11_machine_114 (by decide) (by first | omega | exact rg_of _) (by first | omega | exact rg_of _) (fun c_114 => ?_) (fun c_114 => ?_)
        · refine PW.aload_n (pc := 165) dX11_machine_165 rfl ?_
          refine PW.iload_n (pc := 166) dX11_machine_166 rfl ?_
          refine PW.puti (pc := 167) dX11_machine_167 fl_X11_119 M.g112 ?_
          refine PW.bipush (pc := 170) dX11_machine_170 (by decide) ?_
          refine PW.aload_n (pc := 172) dX11_machine_172 rfl ?_
          refine PW.geti (pc := 173) dX11_machine_173 fl_X11_132 (by decide) M.g112 ?_
          rw [y23]
          refine PW.isub (pc := 176) dX11_machine_176 ?_
          exact PW.ireturn (pc := 177) dX11_machine_177 rfl (K _ (fun q z g => by rw [pw_up_other (by omega), fr q (by omega), F.1 q z g]) (pw_up_self _ _ _ _) (fun q g1 g2 j j0 j1 => by
          rw [pw_up_other (by omega)]
          obtain ⟨b1, b2, b3⟩ := rws j j0 j1
          rcases (show q = 122 ∨ q = 123 ∨ q = 124 by omega) with rfl | rfl | rfl
          · exact b1
          · exact b2
          · exact b3))
        · omega
  refine PW.iconst (pc := 108) dX11_machine_108 ?_
  refine PW.istore (pc := 109) dX11_machine_109 (by decide) ?_
  exact loop w 0 J0 (by omega) (by omega) (fun _ _ => rfl) (fun j j0 j1 => by omega)
set_option maxRecDepth 100000 in
set_option maxHeartbeats 1000000 in
theorem q_machine (d : Nat) {I : PIm} {s : CS} (M : MAt Γ R) (h : MVal s I) : PC sc mX11_machine (d + 4) 0 0 [.inr (some 112)] Γ I R (MPo Γ I R (sp_machine s).1 (sp_machine s).2) := by
  have h1 := h.thr
  have z1 : ∀ q, q < 112 → pw_up I 112 0 0 q = I q := fun q g => pw_up_ne q (by omega)
  generalize hI1 : pw_up I 112 0 0 = I1 at h1 z1
  obtain ⟨vT, ⟨tb, vF⟩, ⟨vN, vNo⟩, vH, vI, vS⟩ := id h1
  obtain ⟨n1, n2, n25, n26, n27, n28⟩ := id vN
  obtain ⟨vNok, vNoF⟩ := id vNo
  have PM := vN.prog vNok
  have o1 : vn (cNow s) ≤ 6 := vNok.1
  have o3 : 0 ≤ vl (cNow s) ∧ vl (cNow s) ≤ 3 := vNok.2.2.1
  have o4 : 0 ≤ vf (cNow s) ∧ vf (cNow s) ≤ 7 := vNok.2.2.2.1
  have o5 : 0 ≤ vw (cNow s) ∧ vw (cNow s) ≤ 1 := vNok.2.2.2.2.1
  have o6 : 0 ≤ vi (cNow s) ∧ vi (cNow s) < 64 := vNok.2.2.2.2.2
  obtain ⟨t1, t2, t3⟩ := id vT
  have v4 := vF.2.1.1
  have v104 := vF.2.2.1
  obtain ⟨w, hw⟩ : ∃ w : Nat, I1 112 14 = w := ⟨(I1 112 14).toNat, by omega⟩
  obtain ⟨tx, htx⟩ : ∃ tx, I1 127 = tx := ⟨_, rfl⟩
  have hx : TxOK tx (cN s : Int) := ⟨⟨by omega, by omega⟩, fun k k0 k1 => by rw [← htx]; obtain ⟨u1, u2, u3⟩ := t3 k k0 k1; rw [u1]; omega⟩
  have epa : pAll (cTx s) (cN s) 100 pstart 0 = pAll tx (cN s) 100 pstart 0 := (pAll_congr (tx := tx) (tx' := cTx s) (by omega) (fun k k0 k1 => by rw [← htx]; exact (t3 k k0 k1).1) 100 pstart 0 (by omega) (by omega)).symm
  rw [show sp_machine s = macRes s (pAll (cTx s) (cN s) 100 pstart 0) from rfl, epa]
  obtain ⟨n, hn⟩ : ∃ n : Int, (cN s : Int) = n := ⟨_, rfl⟩
  rw [hn] at hx t1 ⊢
  have hn100 := hx.1
  obtain ⟨res, hres⟩ : ∃ res, pAll tx n 100 pstart 0 = res := ⟨_, rfl⟩
  rw [hres]
  obtain ⟨A, hA⟩ : ∃ A : Int × CS, macRes s res = A := ⟨_, rfl⟩
  rw [hA]
  have fault : ∀ (J : PIm) (it f : Int) (o3 o4 : Option PV), MFr I1 J w → J 112 23 = f → res = (none, f) → PW sc mX11_machine (d + 4) 0 0 (MPo Γ I R A.1 A.2) 108 [some (.inr (some 112)), some (.inl (w : Int)), some (.inl it), o3, o4] [] Γ J R := by
    intro J it f o3 o4 F hf hr
    rw [hr] at hA
    unfold macRes at hA
    dsimp only at hA
    rw [← hA]
    refine lp_restore _ M (by omega) F hf (fun J2 fr e14 rws => MPo.of (fun q g => ?_) (h1.cg (fun k hk => ?_) (fun q g => ?_) (fun q a b k k0 k1 => rws q a b k k0 (by omega))))
    · rw [← z1 q g]; funext z; exact fr q z (by omega)
    · rcases (show k = 14 ∨ k ≠ 14 by omega) with rfl | g
      · rw [e14, hw]
      · exact fr 112 k (by omega)
    · funext z; exact fr q z (by omega)
  have loop : ∀ (N : Nat) (it p : Int) (J : PIm) (σ : PS) (tb : Int → Tm) (o3 o4 : Option PV), it + N = 100 → it = (σ.1.1 : Int) + (σ.2.2 : Int) → 0 ≤ p → p ≤ n → J 112 22 = nxt tx n p → J 112 23 = skp tx n p → J 112 24 = tok tx n p → MFr I1 J w → MPI J σ tb p → pAll tx n N σ p = res → PW sc mX11_machine (d + 4) 0 0 (MPo Γ I R A.1 A.2) 74 [some (.inr (some 112)), some (.inl (w : Int)), some (.inl it), o3, o4] [] Γ J R := by
    intro N
    induction N with
    | zero =>
      intro it p J σ tb o3 o4 g1 g2 p0 p1 h22 h23 h24 F PI he
      have := PI.1.2.1
      have := PI.2.1.2.1
      omega
    | succ N ih =>
      intro it p J σ tb o3 o4 g1 g2 p0 p1 h22 h23 h24 F PI he
      have hf6 := PI.1.2.1
      have hp6 := PI.2.1.2.1
      have htk := tok_rg hx p0 p1
      have etx : J 127 = tx := by rw [← htx]; funext z; exact F.1 _ _ (by omega)
      have en : J 112 20 = n := by rw [F.1 _ _ (by omega)]; exact t1
      by_cases hE : tok tx n p = -1
      · rw [pAll, if_pos hE] at he
        rw [← he] at hA
        unfold macRes at hA
        dsimp only at hA
        rw [← hA]
        refine PW.aload_n (pc := 74) dX11_machine_74 rfl ?_
        refine PW.geti (pc := 75) dX11_machine_75 fl_X11_135 (by decide) M.g112 ?_
        rw [h24]
        refine PW.iconst (pc := 78) dX11_machine_78 ?_
        refine PW.icmp_eq (pc := 79) (tgt := 188) dX11_machine_79 (by decide) (by first | omega | exact rg_of _) (by first | omega | exact rg_of _) (fun c_79 => ?_) (fun c_79 => ?_)
        · refine PW.aload_n (pc := 188) dX11_machine_188 rfl ?_
          refine PW.invV0 (pc := 189) dX11_machine_189 mv_X11_101 (c_X11_becomes _ M PI (by omega)) M.g112 rfl rfl (Nat.le_of_ble_eq_true rfl) ?_
          (rintro v Γ' J2 R' ⟨rfl, rfl, rfl, fr, ⟨tb2, f1, f2, f3, f4⟩, rw_, okp, ⟨l1, l2⟩, u7, u10, u0, u1⟩)
          refine PW.aload_n (pc := 192) dX11_machine_192 rfl ?_
          refine PW.iconst (pc := 193) dX11_machine_193 ?_
          refine PW.puti (pc := 194) dX11_machine_194 fl_X11_126 M.g112 ?_
          refine PW.iload_n (pc := 197) dX11_machine_197 rfl ?_
          exact PW.ireturn (pc := 198) dX11_machine_198 rfl (by
          obtain ⟨x1, x2, x3⟩ := shl_all ⟨σ.1.1, by omega⟩
          dsimp only at x1 x2 x3
          have y : ∀ q z, ¬ (q = 112 ∧ z = 20) → pw_up J2 112 20 0 q z = J2 q z := fun q z g => pw_up_other g
          have yq : ∀ q, q ≠ 112 → pw_up J2 112 20 0 q = J2 q := fun q g => by funext z; exact y q z (by omega)
          have y20 : pw_up J2 112 20 0 112 20 = 0 := pw_up_self _ _ _ _
          generalize pw_up J2 112 20 0 = J3 at *
          have e14 : J3 112 14 = J2 112 14 := y _ _ (by omega)
          rw [g2]
          refine MPo.of (fun q g => ?_) ⟨⟨y20, Nat.zero_le _, fun k k0 k1 => absurd k1 (by show ¬ k < ((0 : Nat) : Int); omega)⟩, ⟨tb2, ?_⟩, ⟨by rw [yq 116 (by omega)]; exact rw_, ⟨l2, okp, (show (0 : Int) ≤ 2 ∧ (2 : Int) ≤ 3 by omega), (show (0 : Int) ≤ 0 ∧ (0 : Int) ≤ 7 by omega), (show (0 : Int) ≤ 0 ∧ (0 : Int) ≤ 1 by omega), x1, x3⟩, x2⟩, ⟨by rw [y _ _ (by omega)]; exact u7, Nat.zero_le _, fun i i0 i1 => absurd i1 (by show ¬ i < ((0 : Nat) : Int); omega)⟩, fun i i0 i1 => ⟨?_, Or.inl rfl⟩, ⟨by rw [y _ _ (by omega)]; exact u10, Nat.zero_le _, fun i i0 i1 => absurd i1 (by show ¬ i < ((0 : Nat) : Int); omega)⟩⟩
          · rw [← z1 q g, yq q (by omega)]; funext z; rw [fr q z (by omega)]; exact F.1 q z (by omega)
          · unfold MFa
            rw [e14]
            exact ⟨f1.cg (y _ _ (by omega)) (fun q a b => yq q (by omega)) (Int.le_refl _) (fun _ _ _ => rfl), f2.cg (fun q a b k _ _ => y q k (by omega)), f3, f4⟩
          · rw [yq 119 (by omega)]
            rcases (show i = 0 ∨ i = 1 by omega) with rfl | rfl
            · exact u0
            · exact u1)
        · omega
      · rw [pAll, if_neg hE] at he
        have CI := c_X11_item (sc := sc) (Γ := Γ) (R := R) d M etx en h22 h23 h24 hx p0 p1 hE PI
        have rr := pItem_rg (tx := tx) (n := n) (σ := σ) p1
        rw [pItem_semi] at he rr
        rcases hq : pItem0 tx n σ p with ⟨_ | σ', p'⟩
        · rw [hq] at he CI
          have er : res = (none, p') := he.symm
          refine PW.aload_n (pc := 74) dX11_machine_74 rfl ?_
          refine PW.geti (pc := 75) dX11_machine_75 fl_X11_135 (by decide) M.g112 ?_
          rw [h24]
          refine PW.iconst (pc := 78) dX11_machine_78 ?_
          refine PW.icmp_eq (pc := 79) (tgt := 188) dX11_machine_79 (by decide) (by first | omega | exact rg_of _) (by first | omega | exact rg_of _) (fun c_79 => ?_) (fun c_79 => ?_)
          · exact absurd c_79 hE
          · refine PW.aload_n (pc := 82) dX11_machine_82 rfl ?_
            refine PW.invV0 (pc := 83) dX11_machine_83 mv_X11_171 (CI) M.g112 rfl rfl (Nat.le_of_ble_eq_true rfl) ?_
            (rintro v Γ' J2 R' ⟨rfl, rfl, fr, rfl, b2⟩; dsimp only at b2)
            refine PW.istore_n (pc := 86) dX11_machine_86 (by decide) ?_
            refine PW.iload_n (pc := 87) dX11_machine_87 rfl ?_
            refine PW.if_eq (pc := 88) (tgt := 95) dX11_machine_88 (by decide) (by first | omega | exact rg_of _) (fun c_88 => ?_) (fun c_88 => ?_)
            · refine PW.iload_n (pc := 95) dX11_machine_95 rfl ?_
              refine PW.if_eq (pc := 96) (tgt := 108) dX11_machine_96 (by decide) (by first | omega | exact rg_of _) (fun c_96 => ?_) (fun c_96 => ?_)
              · exact fault J2 it p' _ _ (F.go (fun q z g => fr q z (by omega))) b2 er
              · omega
            · omega
        · rw [hq] at he CI rr
          unfold semi at he rr
          dsimp only at he rr
          have hp' : 0 ≤ p' ∧ p' ≤ n := by
            have a := (pItem0_rg (tx := tx) (n := n) (σ := σ) p1).1
            rw [hq] at a
            dsimp only at a
            omega
          have hsk' := skp_ge tx hp'.2
          have TK : ∀ J2 : PIm, MFr I1 J2 w → J2 112 22 = p' → PC sc mX11_takes (d + 3) 0 0 [.inr (some 112)] Γ J2 R (fun v Γ' I' R' => v = none ∧ Γ' = Γ ∧ R' = R ∧ Tks J2 I' tx n p') := fun J2 F2 e22 => c_X11_takes _ M (by rw [← htx]; funext z; exact F2.1 _ _ (by omega)) (by rw [F2.1 _ _ (by omega)]; exact t1) e22 hx hp'.1 hp'.2
          have htk' := tok_rg hx hp'.1 hp'.2
          by_cases hs : tok tx n p' = 59
          · rw [if_pos hs] at he rr
            dsimp only at he rr
            have hlt := tok_lt (tx := tx) (n := n) (p := p') (by omega)
            have rr2 := rr.2 σ' rfl
            have nxe : nxt tx n p' = skp tx n p' + 1 := if_pos hlt
            refine PW.aload_n (pc := 74) dX11_machine_74 rfl ?_
            refine PW.geti (pc := 75) dX11_machine_75 fl_X11_135 (by decide) M.g112 ?_
            rw [h24]
            refine PW.iconst (pc := 78) dX11_machine_78 ?_
            refine PW.icmp_eq (pc := 79) (tgt := 188) dX11_machine_79 (by decide) (by first | omega | exact rg_of _) (by first | omega | exact rg_of _) (fun c_79 => ?_) (fun c_79 => ?_)
            · exact absurd c_79 hE
            · refine PW.aload_n (pc := 82) dX11_machine_82 rfl ?_
              refine PW.invV0 (pc := 83) dX11_machine_83 mv_X11_171 (CI) M.g112 rfl rfl (Nat.le_of_ble_eq_true rfl) ?_
              (rintro v Γ' J2 R' ⟨rfl, rfl, fr, rfl, b2, tb2, PI2⟩; dsimp only at b2 PI2)
              have F2 : MFr I1 J2 w := F.go (fun q z g => fr q z (by omega))
              refine PW.istore_n (pc := 86) dX11_machine_86 (by decide) ?_
              refine PW.iload_n (pc := 87) dX11_machine_87 rfl ?_
              refine PW.if_eq (pc := 88) (tgt := 95) dX11_machine_88 (by decide) (by first | omega | exact rg_of _) (fun c_88 => ?_) (fun c_88 => ?_)
              · omega
              · refine PW.aload_n (pc := 91) dX11_machine_91 rfl ?_
                refine PW.invV0 (pc := 92) dX11_machine_92 mv_X11_138 (TK J2 F2 b2) M.g112 rfl rfl (Nat.le_of_ble_eq_true rfl) ?_
                (rintro v Γ' J3 R' ⟨rfl, rfl, rfl, k1, k2, k3, k4⟩)
                have F3 : MFr I1 J3 w := F2.go (fun q z g => k4 q z (by omega))
                rw [nxe] at k1
                have TK2 : PC sc mX11_takes (d + 3) 0 0 [.inr (some 112)] Γ' J3 R' (fun v Γ'' I' R'' => v = none ∧ Γ'' = Γ' ∧ R'' = R' ∧ Tks J3 I' tx n (skp tx n p' + 1)) := c_X11_takes _ M (by rw [← htx]; funext z; exact F3.1 _ _ (by omega)) (by rw [F3.1 _ _ (by omega)]; exact t1) k1 hx (by omega) (by omega)
                refine PW.iload_n (pc := 95) dX11_machine_95 rfl ?_
                refine PW.if_eq (pc := 96) (tgt := 108) dX11_machine_96 (by decide) (by first | omega | exact rg_of _) (fun c_96 => ?_) (fun c_96 => ?_)
                · omega
                · refine PW.aload_n (pc := 99) dX11_machine_99 rfl ?_
                  refine PW.geti (pc := 100) dX11_machine_100 fl_X11_135 (by decide) M.g112 ?_
                  rw [k3]
                  refine PW.bipush (pc := 103) dX11_machine_103 (by decide) ?_
                  refine PW.icmp_eq (pc := 105) (tgt := 178) dX11_machine_105 (by decide) (by first | omega | exact rg_of _) (by first | omega | exact rg_of _) (fun c_105 => ?_) (fun c_105 => ?_)
                  · refine PW.iinc (pc := 178) dX11_machine_178 rfl (by decide) ?_
                    refine PW.aload_n (pc := 181) dX11_machine_181 rfl ?_
                    refine PW.invV0 (pc := 182) dX11_machine_182 mv_X11_138 (TK2) M.g112 rfl rfl (Nat.le_of_ble_eq_true rfl) ?_
                    (rintro v Γ' J4 R' ⟨rfl, rfl, rfl, m1, m2, m3, m4⟩)
                    refine PW.goto (pc := 185) (tgt := 74) dX11_machine_185 (by decide) ?_
                    exact ih (it + 1) (skp tx n p' + 1) J4 σ' tb2 _ _ (by omega) (by omega) (by omega) (by omega) m1 m2 m3 (F3.go (fun q z g => m4 q z (by omega))) (PI2.cg (fun q z g => by rw [m4 q z (by omega), k4 q z (by omega)]) (by omega)) he
                  · exact absurd hs c_105
          · rw [if_neg hs] at he
            have er : res = (none, skp tx n p') := he.symm
            refine PW.aload_n (pc := 74) dX11_machine_74 rfl ?_
            refine PW.geti (pc := 75) dX11_machine_75 fl_X11_135 (by decide) M.g112 ?_
            rw [h24]
            refine PW.iconst (pc := 78) dX11_machine_78 ?_
            refine PW.icmp_eq (pc := 79) (tgt := 188) dX11_machine_79 (by decide) (by first | omega | exact rg_of _) (by first | omega | exact rg_of _) (fun c_79 => ?_) (fun c_79 => ?_)
            · exact absurd c_79 hE
            · refine PW.aload_n (pc := 82) dX11_machine_82 rfl ?_
              refine PW.invV0 (pc := 83) dX11_machine_83 mv_X11_171 (CI) M.g112 rfl rfl (Nat.le_of_ble_eq_true rfl) ?_
              (rintro v Γ' J2 R' ⟨rfl, rfl, fr, rfl, b2, tb2, PI2⟩; dsimp only at b2 PI2)
              have F2 : MFr I1 J2 w := F.go (fun q z g => fr q z (by omega))
              refine PW.istore_n (pc := 86) dX11_machine_86 (by decide) ?_
              refine PW.iload_n (pc := 87) dX11_machine_87 rfl ?_
              refine PW.if_eq (pc := 88) (tgt := 95) dX11_machine_88 (by decide) (by first | omega | exact rg_of _) (fun c_88 => ?_) (fun c_88 => ?_)
              · omega
              · refine PW.aload_n (pc := 91) dX11_machine_91 rfl ?_
                refine PW.invV0 (pc := 92) dX11_machine_92 mv_X11_138 (TK J2 F2 b2) M.g112 rfl rfl (Nat.le_of_ble_eq_true rfl) ?_
                (rintro v Γ' J3 R' ⟨rfl, rfl, rfl, k1, k2, k3, k4⟩)
                have F3 : MFr I1 J3 w := F2.go (fun q z g => k4 q z (by omega))
                refine PW.iload_n (pc := 95) dX11_machine_95 rfl ?_
                refine PW.if_eq (pc := 96) (tgt := 108) dX11_machine_96 (by decide) (by first | omega | exact rg_of _) (fun c_96 => ?_) (fun c_96 => ?_)
                · omega
                · refine PW.aload_n (pc := 99) dX11_machine_99 rfl ?_
                  refine PW.geti (pc := 100) dX11_machine_100 fl_X11_135 (by decide) M.g112 ?_
                  rw [k3]
                  refine PW.bipush (pc := 103) dX11_machine_103 (by decide) ?_
                  refine PW.icmp_eq (pc := 105) (tgt := 178) dX11_machine_105 (by decide) (by first | omega | exact rg_of _) (by first | omega | exact rg_of _) (fun c_105 => ?_) (fun c_105 => ?_)
                  · exact absurd c_105 hs
                  · exact fault J3 it _ _ _ F3 k2 er
  have main : ∀ J : PIm, MFr I1 J w → (∀ q, ¬ (134 ≤ q ∧ q ≤ 136) → J q = I1 q) → PW sc mX11_machine (d + 4) 0 0 (MPo Γ I R A.1 A.2) 59 [some (.inr (some 112)), some (.inl (w : Int)), some (.inl (w : Int)), none, none] [] Γ J R := by
    intro J F _
    refine PW.aload_n (pc := 59) dX11_machine_59 rfl ?_
    refine PW.invV0 (pc := 60) dX11_machine_60 mv_X11_98 (c_X11_begins _ M) M.g112 rfl rfl (Nat.le_of_ble_eq_true rfl) ?_
    (rintro v Γ' J2 R' ⟨rfl, rfl, rfl, PI0, fr⟩)
    have y : ∀ q z, ¬ (q = 112 ∧ z = 22) → pw_up J2 112 22 0 q z = J2 q z := fun q z g => pw_up_other g
    have y22 : pw_up J2 112 22 0 112 22 = 0 := pw_up_self _ _ _ _
    generalize hJ3 : pw_up J2 112 22 0 = J3 at y y22
    have F3 : MFr I1 J3 w := F.go (fun q z g => by rw [y q z (by omega), fr q z (by omega)])
    have TK2 : PC sc mX11_takes (d + 3) 0 0 [.inr (some 112)] Γ' J3 R' (fun v Γ'' I' R'' => v = none ∧ Γ'' = Γ' ∧ R'' = R' ∧ Tks J3 I' tx n 0) := c_X11_takes _ M (by rw [← htx]; funext z; exact F3.1 _ _ (by omega)) (by rw [F3.1 _ _ (by omega)]; exact t1) y22 hx (by omega) (by omega)
    refine PW.aload_n (pc := 63) dX11_machine_63 rfl ?_
    refine PW.iconst (pc := 64) dX11_machine_64 ?_
    refine PW.puti (pc := 65) dX11_machine_65 fl_X11_129 M.g112 ?_
    rw [hJ3]
    refine PW.iconst (pc := 68) dX11_machine_68 ?_
    refine PW.istore_n (pc := 69) dX11_machine_69 (by decide) ?_
    refine PW.aload_n (pc := 70) dX11_machine_70 rfl ?_
    refine PW.invV0 (pc := 71) dX11_machine_71 mv_X11_138 (TK2) M.g112 rfl rfl (Nat.le_of_ble_eq_true rfl) ?_
    (rintro v Γ' J4 R' ⟨rfl, rfl, rfl, m1, m2, m3, m4⟩)
    exact loop 100 0 0 J4 pstart tc _ _ (by decide) (by decide) (by omega) (by omega) m1 m2 m3 (F3.go (fun q z g => m4 q z (by omega))) (PI0.cg (fun q z g => by rw [m4 q z (by omega), y q z (by omega)]) (by omega)) hres
  refine PC.ofPW (by decide) (Nat.le_of_ble_eq_true rfl) ?_
  refine PW.aload_n (pc := 0) dX11_machine_0 rfl ?_
  refine PW.iconst (pc := 1) dX11_machine_1 ?_
  refine PW.puti (pc := 2) dX11_machine_2 fl_X11_104 M.g112 ?_
  rw [hI1]
  refine PW.aload_n (pc := 5) dX11_machine_5 rfl ?_
  refine PW.geti (pc := 6) dX11_machine_6 fl_X11_119 (by decide) M.g112 ?_
  rw [hw]
  refine PW.istore_n (pc := 9) dX11_machine_9 (by decide) ?_
  refine PW.iconst (pc := 10) dX11_machine_10 ?_
  refine PW.istore_n (pc := 11) dX11_machine_11 (by decide) ?_
  exact lp_aside _ M (by omega) main
end MMACHINE
