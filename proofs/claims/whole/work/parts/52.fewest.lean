section FEWEST
variable {sc : PSc} {Γ : List PTy} {R : PRm}
def pcn (f : Int) : Int := f % 2 + f / 2 % 2 + f / 4 % 2 + f / 8 % 2 + f / 16 % 2 + f / 32 % 2
set_option maxRecDepth 100000 in
set_option maxHeartbeats 1000000 in
theorem pcn_rg (f : Int) : 0 ≤ pcn f ∧ pcn f ≤ 6 := by unfold pcn; omega
def bitc (x : Int) : Int :=
  let a := x - pw_and (pw_ushr x 1) 1431655765
  let b := pw_and a 858993459 + pw_and (pw_ushr a 2) 858993459
  let c := pw_and (b + pw_ushr b 4) 252645135
  let e := c + pw_ushr c 8
  pw_and (e + pw_ushr e 16) 63
set_option maxRecDepth 100000 in
set_option maxHeartbeats 1000000 in
theorem bitc_d : ∀ x : Fin 64, bitc (x.val : Int) = pcn (x.val : Int) := by decide +kernel
set_option maxRecDepth 100000 in
set_option maxHeartbeats 1000000 in
theorem c_bitCount (d : Nat) {I : PIm} {x : Int} (h0 : 0 ≤ x) (h1 : x < 64) : PC sc mJ6_bitCount_0f7a4 d 0 0 [.inl x] Γ I R (px (some (.inl (pcn x))) Γ I R) := by
  have e : bitc x = pcn x := by
    have := bitc_d ⟨x.toNat, by omega⟩
    simpa [Int.toNat_of_nonneg h0] using this
  rw [← e]
  refine PC.ofPW (by decide) (Nat.le_of_ble_eq_true rfl) ?_
  refine PW.iload_n (pc := 0) dJ6_bitCount_0f7a4_0 rfl ?_
  refine PW.iload_n (pc := 1) dJ6_bitCount_0f7a4_1 rfl ?_
  refine PW.iconst (pc := 2) dJ6_bitCount_0f7a4_2 ?_
  refine PW.iushr (pc := 3) dJ6_bitCount_0f7a4_3 ?_
  refine PW.ldcw (pc := 4) dJ6_bitCount_0f7a4_4 ct_J6_265 (z := 1431655765) rfl ?_
  refine PW.iand (pc := 7) dJ6_bitCount_0f7a4_7 ?_
  refine PW.isub (pc := 8) dJ6_bitCount_0f7a4_8 ?_
  refine PW.istore_n (pc := 9) dJ6_bitCount_0f7a4_9 (by decide) ?_
  refine PW.iload_n (pc := 10) dJ6_bitCount_0f7a4_10 rfl ?_
  refine PW.ldcw (pc := 11) dJ6_bitCount_0f7a4_11 ct_J6_266 (z := 858993459) rfl ?_
  refine PW.iand (pc := 14) dJ6_bitCount_0f7a4_14 ?_
  refine PW.iload_n (pc := 15) dJ6_bitCount_0f7a4_15 rfl ?_
  refine PW.iconst (pc := 16) dJ6_bitCount_0f7a4_16 ?_
  refine PW.iushr (pc := 17) dJ6_bitCount_0f7a4_17 ?_
  refine PW.ldcw (pc := 18) dJ6_bitCount_0f7a4_18 ct_J6_266 (z := 858993459) rfl ?_
  refine PW.iand (pc := 21) dJ6_bitCount_0f7a4_21 ?_
  refine PW.iadd (pc := 22) dJ6_bitCount_0f7a4_22 ?_
  refine PW.istore_n (pc := 23) dJ6_bitCount_0f7a4_23 (by decide) ?_
  refine PW.iload_n (pc := 24) dJ6_bitCount_0f7a4_24 rfl ?_
  refine PW.iload_n (pc := 25) dJ6_bitCount_0f7a4_25 rfl ?_
  refine PW.iconst (pc := 26) dJ6_bitCount_0f7a4_26 ?_
  refine PW.iushr (pc := 27) dJ6_bitCount_0f7a4_27 ?_
  refine PW.iadd (pc := 28) dJ6_bitCount_0f7a4_28 ?_
  refine PW.ldcw (pc := 29) dJ6_bitCount_0f7a4_29 ct_J6_267 (z := 252645135) rfl ?_
  refine PW.iand (pc := 32) dJ6_bitCount_0f7a4_32 ?_
  refine PW.istore_n (pc := 33) dJ6_bitCount_0f7a4_33 (by decide) ?_
  refine PW.iload_n (pc := 34) dJ6_bitCount_0f7a4_34 rfl ?_
  refine PW.iload_n (pc := 35) dJ6_bitCount_0f7a4_35 rfl ?_
  refine PW.bipush (pc := 36) dJ6_bitCount_0f7a4_36 (by decide) ?_
  refine PW.iushr (pc := 38) dJ6_bitCount_0f7a4_38 ?_
  refine PW.iadd (pc := 39) dJ6_bitCount_0f7a4_39 ?_
  refine PW.istore_n (pc := 40) dJ6_bitCount_0f7a4_40 (by decide) ?_
  refine PW.iload_n (pc := 41) dJ6_bitCount_0f7a4_41 rfl ?_
  refine PW.iload_n (pc := 42) dJ6_bitCount_0f7a4_42 rfl ?_
  refine PW.bipush (pc := 43) dJ6_bitCount_0f7a4_43 (by decide) ?_
  refine PW.iushr (pc := 45) dJ6_bitCount_0f7a4_45 ?_
  refine PW.iadd (pc := 46) dJ6_bitCount_0f7a4_46 ?_
  refine PW.istore_n (pc := 47) dJ6_bitCount_0f7a4_47 (by decide) ?_
  refine PW.iload_n (pc := 48) dJ6_bitCount_0f7a4_48 rfl ?_
  refine PW.bipush (pc := 49) dJ6_bitCount_0f7a4_49 (by decide) ?_
  refine PW.iand (pc := 51) dJ6_bitCount_0f7a4_51 ?_
  exact PW.ireturn (pc := 52) dJ6_bitCount_0f7a4_52 rfl (px_rfl)
/-- some facts of those that are in by which nothing is wrong -/
def fewOK (s : CS) (f : Int) : Prop := (0 ≤ f ∧ f ≤ vi (cNow s)) ∧ pw_and f (pw_xor (vi (cNow s)) (-1)) = 0 ∧ wrg (cF s) f (vP (cNow s)) (vl (cNow s)) (vf (cNow s)) (vw (cNow s)) (vn (cNow s)) = 0
def IsFew (s : CS) (v : Int) : Prop := (fewOK s v ∧ ∀ g, fewOK s g → pcn v < pcn g ∨ (pcn v = pcn g ∧ v ≤ g)) ∨ (v = -9 ∧ ∀ g, ¬ fewOK s g)
set_option maxRecDepth 100000 in
set_option maxHeartbeats 1000000 in
theorem IsFew.uniq {s : CS} {v v' : Int} (h : IsFew s v) (h' : IsFew s v') : v = v' := by
  rcases h with ⟨a, b⟩ | ⟨rfl, b⟩
  · rcases h' with ⟨a', b'⟩ | ⟨rfl, b'⟩
    · have := b _ a'
      have := b' _ a
      omega
    · exact absurd a (b' _)
  · rcases h' with ⟨a', b'⟩ | ⟨rfl, b'⟩
    · exact absurd a' (b _)
    · rfl
noncomputable def sp_fewest (s : CS) : Int := Classical.epsilon (fun v => IsFew s v)
set_option maxRecDepth 100000 in
set_option maxHeartbeats 1000000 in
theorem sp_fewest_eq {s : CS} {v : Int} (h : IsFew s v) : sp_fewest s = v := by
  exact IsFew.uniq (Classical.epsilon_spec (⟨v, h⟩ : ∃ v, IsFew s v)) h
set_option maxRecDepth 100000 in
set_option maxHeartbeats 1000000 in
theorem few_d : ∀ f : Fin 64, ∀ x : Fin 64, ∀ k : Fin 6, pw_and (f.val : Int) (pw_xor (x.val : Int) (-1)) = 0 → pw_and (pw_shr (f.val : Int) (k.val : Int)) 1 = 1 → pw_and (pw_shr (x.val : Int) (k.val : Int)) 1 = 1 := by decide +kernel
set_option maxRecDepth 100000 in
set_option maxHeartbeats 1000000 in
theorem few_in {f x k : Int} (f0 : 0 ≤ f) (f1 : f < 64) (x0 : 0 ≤ x) (x1 : x < 64) (k0 : 0 ≤ k) (k1 : k < 6) (h : pw_and f (pw_xor x (-1)) = 0) (hb : inb f k) : inb x k := by
  have := few_d ⟨f.toNat, by omega⟩ ⟨x.toNat, by omega⟩ ⟨k.toNat, by omega⟩
  simp only [Int.toNat_of_nonneg f0, Int.toNat_of_nonneg x0, Int.toNat_of_nonneg k0] at this
  exact this h hb
set_option maxRecDepth 100000 in
set_option maxHeartbeats 1000000 in
theorem wrg_mono {F : FS} {f x : Int} {P : Int → Int} {lag fw w : Int} {n : Nat} (hin : ∀ k : Int, 0 ≤ k → k < F.1 → inb f k → inb x k) (h : wrg F f P lag fw w n = 0) : wrg F x P lag fw w n = 0 := by
  have hE : ∀ a b, EQ F f a b → EQ F x a b := fun a b e => by
    obtain ⟨k, k0, k1, k2, k3⟩ := e
    exact ⟨k, k0, k1, hin k k0 k1 k2, k3⟩
  unfold wrg at h ⊢
  by_cases r : ROut (UR (UF F) P lag fw w n) F f (EQ F f)
  · obtain ⟨k, k0, k1, k2, k3, k4⟩ := r
    rw [if_pos (cdec_true.mpr ⟨k, k0, k1, hin k k0 k1 k2, k3, Cl.mono hE k4⟩)]
  · rw [if_neg (fun o => r (cdec_true.mp o))] at h
    by_cases r' : ROut (UR (UF F) P lag fw w n) F x (EQ F x)
    · rw [if_pos (cdec_true.mpr r')]
    · rw [if_neg (fun o => r' (cdec_true.mp o))]
      refine bsum_zero _ 4 (fun j j0 j1 => cdec_false.mpr (fun o => ?_))
      refine bsum_pos _ 4 j j0 j1 (cdec_true.mpr ?_) h
      exact fun c => o (Cl.mono hE c)
set_option maxRecDepth 100000 in
set_option maxHeartbeats 1000000 in
theorem few_none {s : CS} (hv : 0 ≤ vi (cNow s) ∧ vi (cNow s) < 64) (hF : (cF s).1 ≤ 6) (h : wrg (cF s) (vi (cNow s)) (vP (cNow s)) (vl (cNow s)) (vf (cNow s)) (vw (cNow s)) (vn (cNow s)) ≠ 0) : IsFew s (-9) := Or.inr ⟨rfl, fun g o => h (wrg_mono (fun k k0 k1 kb => few_in o.1.1 (by have := o.1.2; omega) hv.1 hv.2 k0 (by omega) o.2.1 kb) o.2.2)⟩
set_option maxRecDepth 100000 in
set_option maxHeartbeats 1000000 in
theorem pcn_le : ∀ n : Fin 7, ∀ f : Fin 64, f.val < 2 ^ n.val → pcn (f.val : Int) ≤ (n.val : Int) := by decide +kernel
set_option maxRecDepth 100000 in
set_option maxHeartbeats 1000000 in
theorem p_fewest (d : Nat) {I : PIm} {s : CS} (h : CRel Γ s I R) : PC sc mX10_fewest (d + 7) 0 0 [.inr (some 0)] Γ I R (CPo Γ I R (sp_fewest s) s) := by
  obtain ⟨t, sp, ps, tb, hCA, HP, hV⟩ := id h
  obtain ⟨⟨c0, c1, c2, c3, c4, c5, c6, c7, c8, c9, c10, c11⟩, ⟨aR, aS, aH, aF, aC, aB, a79⟩, ⟨aT, aSp, tsp⟩, g49, r490, r491, aI0, aI1, g50⟩ := id hCA
  obtain ⟨vT, vF, vB, ⟨vN, vNo⟩, ⟨vH, vHo⟩, vI, vS, vK⟩ := id hV
  have aR0 := aR.1
  obtain ⟨aS0, aS1, aS2, aS3, aS4⟩ := id aS
  have aS5 := aS4.1
  have aH0 := aH.1
  have aF0 := aF.1
  have aC0 := aC.1
  have aB0 := aB.1
  have aT0 := aT.1
  have aT1 := aT.2.1
  have aT9 := aT.2.2.2.2.2.2.2.2.2.1
  have aT90 := aT9.1
  obtain ⟨vNok, vNoF⟩ := id vNo
  obtain ⟨o1, o2, o3, o4, o5, o6⟩ := id vNok
  obtain ⟨n1, n2, n3, n4, n5, n6⟩ := id vN
  have e3 : I 6 0 = vl (cNow s) := n3
  have e4 : I 6 1 = vf (cNow s) := n4
  have e5 : I 6 2 = vw (cNow s) := n5
  have e6 : I 3 2 = vi (cNow s) := n6
  have u3 : 0 ≤ vl (cNow s) ∧ vl (cNow s) ≤ 3 := o3
  have u5 : 0 ≤ vw (cNow s) ∧ vw (cNow s) ≤ 1 := o5
  have u6 : 0 ≤ vi (cNow s) ∧ vi (cNow s) < 64 := o6
  have hF6 := vF.1.2.1
  have wr := wrg_rg (cF s) (vi (cNow s)) (vP (cNow s)) (vl (cNow s)) (vf (cNow s)) (vw (cNow s)) (vn (cNow s))
  have loop : ∀ (I0 : PIm) (R0 : PRm) (tb : Int → Tm), CAct Γ s I0 R0 t sp ps tb (UR (UF (cF s)) (vP (cNow s)) (vl (cNow s)) (vf (cNow s)) (vw (cNow s)) (vn (cNow s))) → FlowR I0 (t + 1) 51 tb (vP (cNow s)) (vl (cNow s)) (vf (cNow s)) (vw (cNow s)) (vn (cNow s)) → (∀ q, 112 ≤ q → I0 q = I q) → (∀ q, 112 ≤ q → R0 q = R q) → ∀ (N k : Nat) (o o' : Option PV) (I1 : PIm) (R1 : PRm), (cF s).1 + 1 - k = N → k ≤ (cF s).1 + 1 → Fr58 I0 I1 R0 R1 → (∀ g, fewOK s g → (k : Int) ≤ pcn g) → PW sc mX10_fewest (d + 7) 0 0 (CPo Γ I R (sp_fewest s) s) 30 [some (.inr (some 0)), some (.inl (k : Int)), o, o'] [] Γ I1 R1 := by
    intro I0 R0 tb h0 F0 hI hR N
    induction N using Nat.strongRecOn with
    | _ N ih =>
      intro k o o' I1 R1 hN hk fr hno
      have fI : ∀ I2 R2, Fr58 I0 I2 R0 R2 → (∀ q, 112 ≤ q → I2 q = I q) ∧ (∀ q, 112 ≤ q → R2 q = R q) := fun I2 R2 f => ⟨fun q hq => by rw [f.1 q (by omega), hI q hq], fun q hq => by rw [f.2.1 q (by omega), hR q hq]⟩
      have inner : k ≤ (cF s).1 → ∀ (M j : Nat) (o : Option PV) (I2 : PIm) (R2 : PRm), (vi (cNow s) + 1 - j).toNat = M → (j : Int) ≤ vi (cNow s) + 1 → Fr58 I0 I2 R0 R2 → (∀ g, fewOK s g → g < j → pcn g ≠ k) → PW sc mX10_fewest (d + 7) 0 0 (CPo Γ I R (sp_fewest s) s) 43 [some (.inr (some 0)), some (.inl (k : Int)), some (.inl (j : Int)), o] [] Γ I2 R2 := by
        intro hl M
        induction M using Nat.strongRecOn with
        | _ M ih2 =>
          intro j o I2 R2 hM hj fr2 hni
          have A := h0.cg fr2
          have F : FlowR I2 (t + 1) 51 tb (vP (cNow s)) (vl (cNow s)) (vf (cNow s)) (vw (cNow s)) (vn (cNow s)) := F0.cg (fun q g => fr2.1 q (by omega))
          obtain ⟨⟨hCA, HP, hV⟩, -⟩ := id A
          obtain ⟨⟨c0, c1, c2, c3, c4, c5, c6, c7, c8, c9, c10, c11⟩, ⟨aR, aS, aH, aF, aC, aB, a79⟩, -⟩ := id hCA
          have aS0 := aS.1
          obtain ⟨vT, vF, vB, ⟨vN, vNo⟩, -⟩ := id hV
          have e6 : I2 3 2 = vi (cNow s) := vN.2.2.2.2.2
          by_cases hj2 : (j : Int) ≤ vi (cNow s)
          · have pr := pcn_rg (j : Int)
            have wr := wrg_rg (cF s) (j : Int) (vP (cNow s)) (vl (cNow s)) (vf (cNow s)) (vw (cNow s)) (vn (cNow s))
            have nx : ∀ (I3 : PIm) (R3 : PRm) (o : Option PV), Fr58 I0 I3 R0 R3 → (fewOK s j → pcn j ≠ k) → PW sc mX10_fewest (d + 7) 0 0 (CPo Γ I R (sp_fewest s) s) 43 [some (.inr (some 0)), some (.inl (k : Int)), some (.inl ((j : Int) + 1)), o] [] Γ I3 R3 := fun I3 R3 o fr3 hn => ih2 _ (by omega) (j + 1) o I3 R3 rfl (by omega) fr3 (fun g hg hl' => by
              by_cases e : g = (j : Int)
              · rw [e] at hg ⊢; exact hn hg
              · exact hni g hg (by omega))
            by_cases q1 : pcn (j : Int) = k
            · by_cases q2 : pw_and (j : Int) (pw_xor (vi (cNow s)) (-1)) = 0
              · refine PW.iload_n (pc := 43) dX10_fewest_43 rfl ?_
                refine PW.aload_n (pc := 44) dX10_fewest_44 rfl ?_
                refine PW.getr (pc := 45) dX10_fewest_45 fl_X10_19 (by first | assumption | rfl) (by first | assumption | rfl) ?_
                refine PW.geti (pc := 48) dX10_fewest_48 fl_X10_158 (by decide) (by first | assumption | rfl) ?_
                rw [e6]
                refine PW.icmp_gt (pc := 51) (tgt := 102) dX10_fewest_51 (by decide) (by first | omega | exact rg_of _) (by first | omega | exact rg_of _) (fun c_51 => ?_) (fun c_51 => ?_)
                · omega
                · refine PW.iload_n (pc := 54) dX10_fewest_54 rfl ?_
                  refine PW.invS0x (pc := 55) dX10_fewest_55 ms_X10_248 (c_bitCount _ (by omega) (by omega)) rfl rfl (Nat.le_of_ble_eq_true rfl) ?_
                  refine PW.iload_n (pc := 58) dX10_fewest_58 rfl ?_
                  refine PW.icmp_ne (pc := 59) (tgt := 80) dX10_fewest_59 (by decide) (by first | omega | exact rg_of _) (by first | omega | exact rg_of _) (fun c_59 => ?_) (fun c_59 => ?_)
                  · exact absurd q1 c_59
                  · refine PW.iload_n (pc := 62) dX10_fewest_62 rfl ?_
                    refine PW.aload_n (pc := 63) dX10_fewest_63 rfl ?_
                    refine PW.getr (pc := 64) dX10_fewest_64 fl_X10_19 (by first | assumption | rfl) (by first | assumption | rfl) ?_
                    refine PW.geti (pc := 67) dX10_fewest_67 fl_X10_158 (by decide) (by first | assumption | rfl) ?_
                    rw [e6]
                    refine PW.iconst (pc := 70) dX10_fewest_70 ?_
                    refine PW.ixor (pc := 71) dX10_fewest_71 ?_
                    refine PW.iand (pc := 72) dX10_fewest_72 ?_
                    rw [q2]
                    refine PW.if_ne (pc := 73) (tgt := 80) dX10_fewest_73 (by decide) (by first | omega | exact rg_of _) (fun c_73 => ?_) (fun c_73 => ?_)
                    · omega
                    · refine PW.iconst (pc := 76) dX10_fewest_76 ?_
                      refine PW.goto (pc := 77) (tgt := 81) dX10_fewest_77 (by decide) ?_
                      refine PW.istore_n (pc := 81) dX10_fewest_81 (by decide) ?_
                      refine PW.iload_n (pc := 82) dX10_fewest_82 rfl ?_
                      refine PW.if_eq (pc := 83) (tgt := 96) dX10_fewest_83 (by decide) (by first | omega | exact rg_of _) (fun c_83 => ?_) (fun c_83 => ?_)
                      · omega
                      · refine PW.aload_n (pc := 86) dX10_fewest_86 rfl ?_
                        refine PW.iload_n (pc := 87) dX10_fewest_87 rfl ?_
                        refine PW.invV0 (pc := 88) dX10_fewest_88 mv_X10_234 (c_X10_wrongBy _ A F) (by first | assumption | rfl) rfl rfl (Nat.le_of_ble_eq_true rfl) ?_
                        (rintro v Γ' I3 R3 ⟨rfl, rfl, f⟩)
                        obtain ⟨fI1, fI2⟩ := fI I3 R3 (fr2.tr f)
                        refine PW.if_ne (pc := 91) (tgt := 96) dX10_fewest_91 (by decide) (by first | omega | exact rg_of _) (fun c_91 => ?_) (fun c_91 => ?_)
                        · refine PW.iinc (pc := 96) dX10_fewest_96 rfl (by decide) ?_
                          refine PW.goto (pc := 99) (tgt := 43) dX10_fewest_99 (by decide) ?_
                          exact nx I3 R3 _ (fr2.tr f) (fun w => absurd w.2.2 c_91)
                        · refine PW.iload_n (pc := 94) dX10_fewest_94 rfl ?_
                          exact PW.ireturn (pc := 95) dX10_fewest_95 rfl (by
                          rw [sp_fewest_eq (v := (j : Int)) (Or.inl ⟨⟨⟨by omega, hj2⟩, q2, c_91⟩, fun g hg => by
                              have := hno g hg
                              by_cases z : pcn g = (k : Int)
                              · right
                                refine ⟨by omega, ?_⟩
                                by_cases z2 : g < (j : Int)
                                · exact absurd z (hni g hg z2)
                                · omega
                              · left; omega⟩)]
                          exact CPo.of fI1 fI2 (A.cg f).rel)
              · refine PW.iload_n (pc := 43) dX10_fewest_43 rfl ?_
                refine PW.aload_n (pc := 44) dX10_fewest_44 rfl ?_
                refine PW.getr (pc := 45) dX10_fewest_45 fl_X10_19 (by first | assumption | rfl) (by first | assumption | rfl) ?_
                refine PW.geti (pc := 48) dX10_fewest_48 fl_X10_158 (by decide) (by first | assumption | rfl) ?_
                rw [e6]
                refine PW.icmp_gt (pc := 51) (tgt := 102) dX10_fewest_51 (by decide) (by first | omega | exact rg_of _) (by first | omega | exact rg_of _) (fun c_51 => ?_) (fun c_51 => ?_)
                · omega
                · refine PW.iload_n (pc := 54) dX10_fewest_54 rfl ?_
                  refine PW.invS0x (pc := 55) dX10_fewest_55 ms_X10_248 (c_bitCount _ (by omega) (by omega)) rfl rfl (Nat.le_of_ble_eq_true rfl) ?_
                  refine PW.iload_n (pc := 58) dX10_fewest_58 rfl ?_
                  refine PW.icmp_ne (pc := 59) (tgt := 80) dX10_fewest_59 (by decide) (by first | omega | exact rg_of _) (by first | omega | exact rg_of _) (fun c_59 => ?_) (fun c_59 => ?_)
                  · exact absurd q1 c_59
                  · refine PW.iload_n (pc := 62) dX10_fewest_62 rfl ?_
                    refine PW.aload_n (pc := 63) dX10_fewest_63 rfl ?_
                    refine PW.getr (pc := 64) dX10_fewest_64 fl_X10_19 (by first | assumption | rfl) (by first | assumption | rfl) ?_
                    refine PW.geti (pc := 67) dX10_fewest_67 fl_X10_158 (by decide) (by first | assumption | rfl) ?_
                    rw [e6]
                    refine PW.iconst (pc := 70) dX10_fewest_70 ?_
                    refine PW.ixor (pc := 71) dX10_fewest_71 ?_
                    refine PW.iand (pc := 72) dX10_fewest_72 ?_
                    refine PW.if_ne (pc := 73) (tgt := 80) dX10_fewest_73 (by decide) (by first | omega | exact rg_of _) (fun c_73 => ?_) (fun c_73 => ?_)
                    · refine PW.iconst (pc := 80) dX10_fewest_80 ?_
                      refine PW.istore_n (pc := 81) dX10_fewest_81 (by decide) ?_
                      refine PW.iload_n (pc := 82) dX10_fewest_82 rfl ?_
                      refine PW.if_eq (pc := 83) (tgt := 96) dX10_fewest_83 (by decide) (by first | omega | exact rg_of _) (fun c_83 => ?_) (fun c_83 => ?_)
                      · refine PW.iinc (pc := 96) dX10_fewest_96 rfl (by decide) ?_
                        refine PW.goto (pc := 99) (tgt := 43) dX10_fewest_99 (by decide) ?_
                        exact nx I2 R2 _ fr2 (fun w => absurd w.2.1 q2)
                      · omega
                    · exact absurd c_73 q2
            · refine PW.iload_n (pc := 43) dX10_fewest_43 rfl ?_
              refine PW.aload_n (pc := 44) dX10_fewest_44 rfl ?_
              refine PW.getr (pc := 45) dX10_fewest_45 fl_X10_19 (by first | assumption | rfl) (by first | assumption | rfl) ?_
              refine PW.geti (pc := 48) dX10_fewest_48 fl_X10_158 (by decide) (by first | assumption | rfl) ?_
              rw [e6]
              refine PW.icmp_gt (pc := 51) (tgt := 102) dX10_fewest_51 (by decide) (by first | omega | exact rg_of _) (by first | omega | exact rg_of _) (fun c_51 => ?_) (fun c_51 => ?_)
              · omega
              · refine PW.iload_n (pc := 54) dX10_fewest_54 rfl ?_
                refine PW.invS0x (pc := 55) dX10_fewest_55 ms_X10_248 (c_bitCount _ (by omega) (by omega)) rfl rfl (Nat.le_of_ble_eq_true rfl) ?_
                refine PW.iload_n (pc := 58) dX10_fewest_58 rfl ?_
                refine PW.icmp_ne (pc := 59) (tgt := 80) dX10_fewest_59 (by decide) (by first | omega | exact rg_of _) (by first | omega | exact rg_of _) (fun c_59 => ?_) (fun c_59 => ?_)
                · refine PW.iconst (pc := 80) dX10_fewest_80 ?_
                  refine PW.istore_n (pc := 81) dX10_fewest_81 (by decide) ?_
                  refine PW.iload_n (pc := 82) dX10_fewest_82 rfl ?_
                  refine PW.if_eq (pc := 83) (tgt := 96) dX10_fewest_83 (by decide) (by first | omega | exact rg_of _) (fun c_83 => ?_) (fun c_83 => ?_)
                  · refine PW.iinc (pc := 96) dX10_fewest_96 rfl (by decide) ?_
                    refine PW.goto (pc := 99) (tgt := 43) dX10_fewest_99 (by decide) ?_
                    exact nx I2 R2 _ fr2 (fun w => q1)
                  · omega
                · exact absurd c_59 q1
          · refine PW.iload_n (pc := 43) dX10_fewest_43 rfl ?_
            refine PW.aload_n (pc := 44) dX10_fewest_44 rfl ?_
            refine PW.getr (pc := 45) dX10_fewest_45 fl_X10_19 (by first | assumption | rfl) (by first | assumption | rfl) ?_
            refine PW.geti (pc := 48) dX10_fewest_48 fl_X10_158 (by decide) (by first | assumption | rfl) ?_
            rw [e6]
            refine PW.icmp_gt (pc := 51) (tgt := 102) dX10_fewest_51 (by decide) (by first | omega | exact rg_of _) (by first | omega | exact rg_of _) (fun c_51 => ?_) (fun c_51 => ?_)
            · refine PW.iinc (pc := 102) dX10_fewest_102 rfl (by decide) ?_
              refine PW.goto (pc := 105) (tgt := 30) dX10_fewest_105 (by decide) ?_
              exact ih _ (by omega) (k + 1) _ _ I2 R2 rfl (by omega) fr2 (fun g hg => by have := hno g hg; have := hni g hg (by have := hg.1.2; omega); omega)
            · omega
      have A := h0.cg fr
      obtain ⟨⟨hCA, HP, hV⟩, -⟩ := id A
      obtain ⟨⟨c0, c1, c2, c3, c4, c5, c6, c7, c8, c9, c10, c11⟩, -, ⟨aT, -⟩, -⟩ := id hCA
      have aT0 := aT.1
      have ef : I1 t 5 = ((cF s).1 : Int) := hV.2.1.1.1
      by_cases hl : k ≤ (cF s).1
      · refine PW.iload_n (pc := 30) dX10_fewest_30 rfl ?_
        refine PW.aload_n (pc := 31) dX10_fewest_31 rfl ?_
        refine PW.getr (pc := 32) dX10_fewest_32 fl_X10_69 (by first | assumption | rfl) (by first | assumption | rfl) ?_
        refine PW.geti (pc := 35) dX10_fewest_35 fl_X10_245 (by decide) (by first | assumption | rfl) ?_
        rw [ef]
        refine PW.icmp_gt (pc := 38) (tgt := 108) dX10_fewest_38 (by decide) (by first | omega | exact rg_of _) (by first | omega | exact rg_of _) (fun c_38 => ?_) (fun c_38 => ?_)
        · omega
        · refine PW.iconst (pc := 41) dX10_fewest_41 ?_
          refine PW.istore_n (pc := 42) dX10_fewest_42 (by decide) ?_
          exact inner hl _ 0 _ I1 R1 rfl (by omega) fr (fun g hg hl => by have := hg.1.1; omega)
      · obtain ⟨fI1, fI2⟩ := fI I1 R1 fr
        have none_ : IsFew s (-9) := Or.inr ⟨rfl, fun g hg => by
          have h1 := hno g hg
          obtain ⟨⟨g0, g1⟩, -⟩ := hg
          have vF2 : vi (cNow s) < 2 ^ (cF s).1 := vNoF
          have ep : ((2 ^ (cF s).1 : Nat) : Int) = (2 : Int) ^ (cF s).1 := by simp
          have := pcn_le ⟨(cF s).1, by omega⟩ ⟨g.toNat, by omega⟩ (by dsimp only; omega)
          simp only [Int.toNat_of_nonneg g0] at this
          omega⟩
        refine PW.iload_n (pc := 30) dX10_fewest_30 rfl ?_
        refine PW.aload_n (pc := 31) dX10_fewest_31 rfl ?_
        refine PW.getr (pc := 32) dX10_fewest_32 fl_X10_69 (by first | assumption | rfl) (by first | assumption | rfl) ?_
        refine PW.geti (pc := 35) dX10_fewest_35 fl_X10_245 (by decide) (by first | assumption | rfl) ?_
        rw [ef]
        refine PW.icmp_gt (pc := 38) (tgt := 108) dX10_fewest_38 (by decide) (by first | omega | exact rg_of _) (by first | omega | exact rg_of _) (fun c_38 => ?_) (fun c_38 => ?_)
        · refine PW.bipush (pc := 108) dX10_fewest_108 (by decide) ?_
          exact PW.ireturn (pc := 110) dX10_fewest_110 rfl (by rw [sp_fewest_eq none_]; exact CPo.of fI1 fI2 A.rel)
        · omega
  refine PC.ofPW (by decide) (Nat.le_of_ble_eq_true rfl) ?_
  refine PW.aload_n (pc := 0) dX10_fewest_0 rfl ?_
  refine PW.aload_n (pc := 1) dX10_fewest_1 rfl ?_
  refine PW.getr (pc := 2) dX10_fewest_2 fl_X10_19 (by first | assumption | rfl) (by first | assumption | rfl) ?_
  refine PW.getr (pc := 5) dX10_fewest_5 fl_X10_161 (by first | assumption | rfl) (by first | assumption | rfl) ?_
  refine PW.invV0 (pc := 8) dX10_fewest_8 mv_X10_206 (c_X10_goThrough _ hCA HP hV (pp := 6) (Or.inl rfl) e3 e4 e5 u3 (by omega)) (by first | assumption | rfl) rfl rfl (Nat.le_of_ble_eq_true rfl) ?_
  (rintro v Γ' I' R' ⟨rfl, rfl, rfl, y, tb', A, F⟩)
  refine PW.aload_n (pc := 11) dX10_fewest_11 rfl ?_
  refine PW.aload_n (pc := 12) dX10_fewest_12 rfl ?_
  refine PW.getr (pc := 13) dX10_fewest_13 fl_X10_19 (by first | assumption | rfl) (by first | assumption | rfl) ?_
  refine PW.geti (pc := 16) dX10_fewest_16 fl_X10_158 (by decide) (by first | assumption | rfl) ?_
  rw [y 3 (by omega), e6]
  refine PW.invV0 (pc := 19) dX10_fewest_19 mv_X10_234 (c_X10_wrongBy _ A F) (by first | assumption | rfl) rfl rfl (Nat.le_of_ble_eq_true rfl) ?_
  (rintro v Γ' I2 R2 ⟨rfl, rfl, f⟩)
  have fI1 : ∀ q, 112 ≤ q → I2 q = I q := fun q hq => by rw [f.1 q (by omega), y q (by omega)]
  have fI2 : ∀ q, 112 ≤ q → R2 q = R' q := fun q hq => f.2.1 q (by omega)
  refine PW.if_eq (pc := 22) (tgt := 28) dX10_fewest_22 (by decide) (by first | omega | exact rg_of _) (fun c_22 => ?_) (fun c_22 => ?_)
  · refine PW.iconst (pc := 28) dX10_fewest_28 ?_
    refine PW.istore_n (pc := 29) dX10_fewest_29 (by decide) ?_
    exact loop I' R' tb' A F (fun q hq => y q (by omega)) (fun q hq => rfl) _ 0 _ _ I2 R2 rfl (by omega) f (fun g hg => (pcn_rg g).1)
  · refine PW.bipush (pc := 25) dX10_fewest_25 (by decide) ?_
    exact PW.ireturn (pc := 27) dX10_fewest_27 rfl (by rw [sp_fewest_eq (few_none u6 (by omega) c_22)]; exact CPo.of fI1 fI2 (A.cg f).rel)
end FEWEST
