section BROKEN
variable {sc : PSc} {Γ : List PTy} {R : PRm}
def IsBrk (lag fw w : Int) (k v : Int) : Prop := (∃ (m : Nat) (num : Int), IsFirst lag fw w m num ∧ v = if (m : Int) ≤ k then -9 else if k = -1 then (m : Int) else dg m num k) ∨ (NoBrk lag fw w ∧ v = -9)
set_option maxRecDepth 100000 in
set_option maxHeartbeats 1000000 in
theorem IsFirst.uniq {lag fw w : Int} {m m' : Nat} {x x' : Int} (h : IsFirst lag fw w m x) (h' : IsFirst lag fw w m' x') : m = m' ∧ x = x' := by
  obtain ⟨a1, a2, a3, a4, a5⟩ := h
  obtain ⟨b1, b2, b3, b4, b5⟩ := h'
  have e : m = m' := by
    rcases Nat.lt_trichotomy m m' with q | q | q
    · exact absurd a3 (b5 m a1.1 q x a2.1 a2.2)
    · exact q
    · exact absurd b3 (a5 m' b1.1 q x' b2.1 b2.2)
  subst e
  refine ⟨rfl, ?_⟩
  rcases Int.lt_trichotomy x x' with q | q | q
  · exact absurd a3 (b4 x a2.1 q)
  · exact q
  · exact absurd b3 (a4 x' b2.1 q)
set_option maxRecDepth 100000 in
set_option maxHeartbeats 1000000 in
theorem IsFirst.no {lag fw w : Int} {m : Nat} {x : Int} (h : IsFirst lag fw w m x) (h' : NoBrk lag fw w) : False := h' m h.1.1 h.1.2 x h.2.1.1 h.2.1.2 h.2.2.1
set_option maxRecDepth 100000 in
set_option maxHeartbeats 1000000 in
theorem IsBrk.uniq {lag fw w k v v' : Int} (h : IsBrk lag fw w k v) (h' : IsBrk lag fw w k v') : v = v' := by
  rcases h with ⟨m, x, a, rfl⟩ | ⟨a, rfl⟩
  · rcases h' with ⟨m', x', a', rfl⟩ | ⟨a', rfl⟩
    · obtain ⟨rfl, rfl⟩ := a.uniq a'; rfl
    · exact (a.no a').elim
  · rcases h' with ⟨m', x', a', rfl⟩ | ⟨a', rfl⟩
    · exact (a'.no a).elim
    · rfl
noncomputable def sp_broken (s : CS) (k : Int) : Int := if k < -1 then -1 else Classical.epsilon (fun v => IsBrk (vl (cNow s)) (vf (cNow s)) (vw (cNow s)) k v)
set_option maxRecDepth 100000 in
set_option maxHeartbeats 1000000 in
theorem sp_broken_eq {s : CS} {k v : Int} (hk : ¬ k < -1) (h : IsBrk (vl (cNow s)) (vf (cNow s)) (vw (cNow s)) k v) : sp_broken s k = v := by
  unfold sp_broken
  rw [if_neg hk]
  exact IsBrk.uniq (Classical.epsilon_spec (⟨v, h⟩ : ∃ v, IsBrk (vl (cNow s)) (vf (cNow s)) (vw (cNow s)) k v)) h
set_option maxRecDepth 100000 in
set_option maxHeartbeats 1000000 in
theorem p_broken (d : Nat) {I : PIm} {s : CS} {k : Int} (h : CRel Γ s I R) (hk : Rg k) : PC sc mX10_broken (d + 7) 0 0 [.inr (some 0), .inl k] Γ I R (CPo Γ I R (sp_broken s k) s) := by
  obtain ⟨t, sp, ps, tb, hCA, HP, hV⟩ := id h
  obtain ⟨⟨c0, c1, c2, c3, c4, c5, c6, c7, c8, c9, c10, c11⟩, ⟨aR, aS, aH, aF, aC, aB, a79⟩, ⟨aT, aSp, tsp⟩, g49, r490, r491, aI0, aI1, g50⟩ := id hCA
  obtain ⟨vT, vF, vB, ⟨vN, vNo⟩, ⟨vH, vHo⟩, vI, vS, vK⟩ := id hV
  have aR0 := aR.1
  obtain ⟨aS0, aS1, aS2, aS3, aS4⟩ := id aS
  have aS5 := aS4.1
  have aH0 := aH.1
  have aF0 := aF.1
  have aC0 := aC.1
  have aB0 := aB.1
  have aT0 := aT.1
  have aT1 := aT.2.1
  have aT9 := aT.2.2.2.2.2.2.2.2.2.1
  have aT90 := aT9.1
  obtain ⟨vNok, vNoF⟩ := id vNo
  obtain ⟨o1, o2, o3, o4, o5, o6⟩ := id vNok
  obtain ⟨n1, n2, n3, n4, n5, n6⟩ := id vN
  refine PC.ofPW (by decide) (Nat.le_of_ble_eq_true rfl) ?_
  have e3 : I 6 0 = vl (cNow s) := n3
  have e4 : I 6 1 = vf (cNow s) := n4
  have e5 : I 6 2 = vw (cNow s) := n5
  have u3 : 0 ≤ vl (cNow s) ∧ vl (cNow s) ≤ 3 := o3
  have u4 : 0 ≤ vf (cNow s) ∧ vf (cNow s) ≤ 7 := o4
  have u5 : 0 ≤ vw (cNow s) ∧ vw (cNow s) ≤ 1 := o5
  by_cases q : k < -1
  · unfold sp_broken
    rw [if_pos q]
    refine PW.iload_n (pc := 0) dX10_broken_0 rfl ?_
    refine PW.iconst (pc := 1) dX10_broken_1 ?_
    refine PW.icmp_ge (pc := 2) (tgt := 7) dX10_broken_2 (by decide) (by first | omega | exact rg_of _) (by first | omega | exact rg_of _) (fun c_2 => ?_) (fun c_2 => ?_)
    · omega
    · refine PW.iconst (pc := 5) dX10_broken_5 ?_
      exact PW.ireturn (pc := 6) dX10_broken_6 rfl (CPo.same h)
  · have rel : ∀ (I' : PIm), (∀ q z, ¬ (62 ≤ q ∧ q ≤ 62 + 16) → I' q z = I q z) → BrkIs I' 62 → CRel Γ s I' R ∧ ∀ q, 112 ≤ q → I' q = I q := by
      intro I' y' hb
      have y : ∀ q, ¬ (62 ≤ q ∧ q ≤ 78) → I' q = I q := fun q g => by funext z; exact y' q z (by omega)
      exact ⟨⟨t, sp, ps, tb, hCA, HP, (vT.congr rfl (fun q g => y q (by omega))), (vF.congr rfl (fun q g => y q (by omega)) (by rw [y (t + 1) (by omega)])), (vB.of (fun q g1 g2 => y q (by omega))), (⟨vN.cg (fun q g1 g2 => y q (by omega)), vNo⟩), (⟨vH.cg HP (fun q g1 g2 => y q (by omega)), vHo⟩), (vI.congr rfl rfl (fun q g => y q (by omega))), (by unfold CSee; rw [y 0 (by omega)]; exact vS), hb⟩, fun q hq => y q (by omega)⟩
    have yes : ∀ (R : PRm) (I' : PIm) (m : Nat) (num : Int), CRel Γ s I' R → (∀ q, 112 ≤ q → I' q = I q) → (1 ≤ m ∧ m ≤ 4) → IsFirst (vl (cNow s)) (vf (cNow s)) (vw (cNow s)) m num → num < 4096 → PW sc mX10_broken (d + 7) 0 0 (CPo Γ I R (sp_broken s k) s) 22 [some (.inr (some 0)), some (.inl k), some (.inl (4096 * (m : Int) + num)), none] [] Γ I' R := by
      intro R I' m num rl fI m1 hf n4
      have IB : IsBrk (vl (cNow s)) (vf (cNow s)) (vw (cNow s)) k (if (m : Int) ≤ k then -9 else if k = -1 then (m : Int) else dg m num k) := Or.inl ⟨m, num, hf, rfl⟩
      rw [sp_broken_eq q IB]
      have nn := hf.2.1.1
      have hi := its_hi (m := m) m1.2 nn n4
      by_cases z : (m : Int) ≤ k
      · rw [if_pos z]
        refine PW.iload_n (pc := 22) dX10_broken_22 rfl ?_
        refine PW.invS0x (pc := 23) dX10_broken_23 ms_X10_257 (c_X0_sizeOf _) rfl rfl (Nat.le_of_ble_eq_true rfl) ?_
        rw [hi]
        refine PW.istore_n (pc := 26) dX10_broken_26 (by decide) ?_
        refine PW.iload_n (pc := 27) dX10_broken_27 rfl ?_
        refine PW.if_eq (pc := 28) (tgt := 36) dX10_broken_28 (by decide) (by first | omega | exact rg_of _) (fun c_28 => ?_) (fun c_28 => ?_)
        · omega
        · refine PW.iload_n (pc := 31) dX10_broken_31 rfl ?_
          refine PW.iload_n (pc := 32) dX10_broken_32 rfl ?_
          refine PW.icmp_lt (pc := 33) (tgt := 39) dX10_broken_33 (by decide) (by first | omega | exact rg_of _) (by first | omega | exact rg_of _) (fun c_33 => ?_) (fun c_33 => ?_)
          · omega
          · refine PW.bipush (pc := 36) dX10_broken_36 (by decide) ?_
            exact PW.ireturn (pc := 38) dX10_broken_38 rfl (CPo.of fI (fun _ _ => rfl) rl)
      · rw [if_neg z]
        by_cases z1 : k = -1
        · rw [if_pos z1]
          refine PW.iload_n (pc := 22) dX10_broken_22 rfl ?_
          refine PW.invS0x (pc := 23) dX10_broken_23 ms_X10_257 (c_X0_sizeOf _) rfl rfl (Nat.le_of_ble_eq_true rfl) ?_
          rw [hi]
          refine PW.istore_n (pc := 26) dX10_broken_26 (by decide) ?_
          refine PW.iload_n (pc := 27) dX10_broken_27 rfl ?_
          refine PW.if_eq (pc := 28) (tgt := 36) dX10_broken_28 (by decide) (by first | omega | exact rg_of _) (fun c_28 => ?_) (fun c_28 => ?_)
          · omega
          · refine PW.iload_n (pc := 31) dX10_broken_31 rfl ?_
            refine PW.iload_n (pc := 32) dX10_broken_32 rfl ?_
            refine PW.icmp_lt (pc := 33) (tgt := 39) dX10_broken_33 (by decide) (by first | omega | exact rg_of _) (by first | omega | exact rg_of _) (fun c_33 => ?_) (fun c_33 => ?_)
            · refine PW.iload_n (pc := 39) dX10_broken_39 rfl ?_
              refine PW.iconst (pc := 40) dX10_broken_40 ?_
              refine PW.icmp_ne (pc := 41) (tgt := 48) dX10_broken_41 (by decide) (by first | omega | exact rg_of _) (by first | omega | exact rg_of _) (fun c_41 => ?_) (fun c_41 => ?_)
              · omega
              · refine PW.iload_n (pc := 44) dX10_broken_44 rfl ?_
                refine PW.goto (pc := 45) (tgt := 53) dX10_broken_45 (by decide) ?_
                exact PW.ireturn (pc := 53) dX10_broken_53 rfl (CPo.of fI (fun _ _ => rfl) rl)
            · omega
        · rw [if_neg z1]
          refine PW.iload_n (pc := 22) dX10_broken_22 rfl ?_
          refine PW.invS0x (pc := 23) dX10_broken_23 ms_X10_257 (c_X0_sizeOf _) rfl rfl (Nat.le_of_ble_eq_true rfl) ?_
          rw [hi]
          refine PW.istore_n (pc := 26) dX10_broken_26 (by decide) ?_
          refine PW.iload_n (pc := 27) dX10_broken_27 rfl ?_
          refine PW.if_eq (pc := 28) (tgt := 36) dX10_broken_28 (by decide) (by first | omega | exact rg_of _) (fun c_28 => ?_) (fun c_28 => ?_)
          · omega
          · refine PW.iload_n (pc := 31) dX10_broken_31 rfl ?_
            refine PW.iload_n (pc := 32) dX10_broken_32 rfl ?_
            refine PW.icmp_lt (pc := 33) (tgt := 39) dX10_broken_33 (by decide) (by first | omega | exact rg_of _) (by first | omega | exact rg_of _) (fun c_33 => ?_) (fun c_33 => ?_)
            · refine PW.iload_n (pc := 39) dX10_broken_39 rfl ?_
              refine PW.iconst (pc := 40) dX10_broken_40 ?_
              refine PW.icmp_ne (pc := 41) (tgt := 48) dX10_broken_41 (by decide) (by first | omega | exact rg_of _) (by first | omega | exact rg_of _) (fun c_41 => ?_) (fun c_41 => ?_)
              · refine PW.iload_n (pc := 48) dX10_broken_48 rfl ?_
                refine PW.iload_n (pc := 49) dX10_broken_49 rfl ?_
                refine PW.invS0x (pc := 50) dX10_broken_50 ms_X10_260 (c_X0_numberAt _) rfl rfl (Nat.le_of_ble_eq_true rfl) ?_
                rw [hi, its_dg m1.2 nn n4 (by omega) (by omega)]
                exact PW.ireturn (pc := 53) dX10_broken_53 rfl (CPo.of fI (fun _ _ => rfl) rl)
              · omega
            · omega
    have no : ∀ (R : PRm) (I' : PIm), CRel Γ s I' R → (∀ q, 112 ≤ q → I' q = I q) → NoBrk (vl (cNow s)) (vf (cNow s)) (vw (cNow s)) → PW sc mX10_broken (d + 7) 0 0 (CPo Γ I R (sp_broken s k) s) 22 [some (.inr (some 0)), some (.inl k), some (.inl 0), none] [] Γ I' R := by
      intro R I' rl fI hno
      rw [sp_broken_eq q (Or.inr ⟨hno, rfl⟩)]
      refine PW.iload_n (pc := 22) dX10_broken_22 rfl ?_
      refine PW.invS0x (pc := 23) dX10_broken_23 ms_X10_257 (c_X0_sizeOf _) rfl rfl (Nat.le_of_ble_eq_true rfl) ?_
      rw [show pw_shr 0 12 = 0 by decide +kernel]
      refine PW.istore_n (pc := 26) dX10_broken_26 (by decide) ?_
      refine PW.iload_n (pc := 27) dX10_broken_27 rfl ?_
      refine PW.if_eq (pc := 28) (tgt := 36) dX10_broken_28 (by decide) (by first | omega | exact rg_of _) (fun c_28 => ?_) (fun c_28 => ?_)
      · refine PW.bipush (pc := 36) dX10_broken_36 (by decide) ?_
        exact PW.ireturn (pc := 38) dX10_broken_38 rfl (CPo.of fI (fun _ _ => rfl) rl)
      · omega
    refine PW.iload_n (pc := 0) dX10_broken_0 rfl ?_
    refine PW.iconst (pc := 1) dX10_broken_1 ?_
    refine PW.icmp_ge (pc := 2) (tgt := 7) dX10_broken_2 (by decide) (by first | omega | exact rg_of _) (by first | omega | exact rg_of _) (fun c_2 => ?_) (fun c_2 => ?_)
    · refine PW.aload_n (pc := 7) dX10_broken_7 rfl ?_
      refine PW.getr (pc := 8) dX10_broken_8 fl_X10_55 (by first | assumption | rfl) (by first | assumption | rfl) ?_
      refine PW.aload_n (pc := 11) dX10_broken_11 rfl ?_
      refine PW.getr (pc := 12) dX10_broken_12 fl_X10_19 (by first | assumption | rfl) (by first | assumption | rfl) ?_
      refine PW.getr (pc := 15) dX10_broken_15 fl_X10_161 (by first | assumption | rfl) (by first | assumption | rfl) ?_
      refine PW.invV0 (pc := 18) dX10_broken_18 mv_X10_253 (c_X0_programBy (lag := vl (cNow s)) (fw := vf (cNow s)) (w := vw (cNow s)) _ aB vK aS3 (by omega) e3 e4 e5 u3 u4 u5) (by first | assumption | rfl) rfl rfl (Nat.le_of_ble_eq_true rfl) ?_
      (rintro v Γ' I' R' ⟨rfl, rfl, y, hb, r, rfl, hres⟩; obtain ⟨rl, fI⟩ := rel I' y hb; rcases hres with ⟨m, num, rfl, hf⟩ | ⟨rfl, hno⟩)
      skip
      · have m1 := hf.1
        have n4 : num < 4096 := by have := hf.2.1.2; have := (pow8_le (s := m) m1.2).1; omega
        refine PW.istore_n (pc := 21) dX10_broken_21 (by decide) ?_
        exact yes _ I' m num rl fI m1 hf n4
      · refine PW.istore_n (pc := 21) dX10_broken_21 (by decide) ?_
        exact no _ I' rl fI hno
    · omega
end BROKEN
