section NEEDED
variable {sc : PSc} {Γ : List PTy} {R : PRm}
set_option maxRecDepth 100000 in
set_option maxHeartbeats 1000000 in
theorem p_wrong (d : Nat) {I : PIm} {s : CS} (h : CRel Γ s I R) : PC sc mX10_wrong (d + 7) 0 0 [.inr (some 0)] Γ I R (CPo Γ I R (sp_wrong s) s) := by
  obtain ⟨t, sp, ps, tb, hCA, HP, hV⟩ := id h
  obtain ⟨⟨c0, c1, c2, c3, c4, c5, c6, c7, c8, c9, c10, c11⟩, ⟨aR, aS, aH, aF, aC, aB, a79⟩, ⟨aT, aSp, tsp⟩, g49, r490, r491, aI0, aI1, g50⟩ := id hCA
  obtain ⟨vT, vF, vB, ⟨vN, vNo⟩, ⟨vH, vHo⟩, vI, vS, vK⟩ := id hV
  have aR0 := aR.1
  obtain ⟨aS0, aS1, aS2, aS3, aS4⟩ := id aS
  have aS5 := aS4.1
  have aH0 := aH.1
  have aF0 := aF.1
  have aC0 := aC.1
  have aB0 := aB.1
  have aT0 := aT.1
  have aT1 := aT.2.1
  have aT9 := aT.2.2.2.2.2.2.2.2.2.1
  have aT90 := aT9.1
  obtain ⟨vNok, vNoF⟩ := id vNo
  obtain ⟨o1, o2, o3, o4, o5, o6⟩ := id vNok
  obtain ⟨n1, n2, n3, n4, n5, n6⟩ := id vN
  refine PC.ofPW (by decide) (Nat.le_of_ble_eq_true rfl) ?_
  unfold sp_wrong
  have e3 : I 6 0 = vl (cNow s) := n3
  have e4 : I 6 1 = vf (cNow s) := n4
  have e5 : I 6 2 = vw (cNow s) := n5
  have e6 : I 3 2 = vi (cNow s) := n6
  have u3 : 0 ≤ vl (cNow s) ∧ vl (cNow s) ≤ 3 := o3
  have u5 : 0 ≤ vw (cNow s) ∧ vw (cNow s) ≤ 1 := o5
  refine PW.aload_n (pc := 0) dX10_wrong_0 rfl ?_
  refine PW.aload_n (pc := 1) dX10_wrong_1 rfl ?_
  refine PW.getr (pc := 2) dX10_wrong_2 fl_X10_19 (by first | assumption | rfl) (by first | assumption | rfl) ?_
  refine PW.getr (pc := 5) dX10_wrong_5 fl_X10_161 (by first | assumption | rfl) (by first | assumption | rfl) ?_
  refine PW.invV0 (pc := 8) dX10_wrong_8 mv_X10_206 (c_X10_goThrough (d + 1) hCA HP hV (pp := 6) (Or.inl rfl) e3 e4 e5 u3 (by omega)) (by first | assumption | rfl) rfl rfl (Nat.le_of_ble_eq_true rfl) ?_
  (rintro v Γ' I' R' ⟨rfl, rfl, rfl, y, tb', A, F⟩)
  refine PW.aload_n (pc := 11) dX10_wrong_11 rfl ?_
  refine PW.aload_n (pc := 12) dX10_wrong_12 rfl ?_
  refine PW.getr (pc := 13) dX10_wrong_13 fl_X10_19 (by first | assumption | rfl) (by first | assumption | rfl) ?_
  refine PW.geti (pc := 16) dX10_wrong_16 fl_X10_158 (by decide) (by first | assumption | rfl) ?_
  rw [y 3 (by omega), e6]
  refine PW.invV0 (pc := 19) dX10_wrong_19 mv_X10_234 (c_X10_wrongBy _ A F) (by first | assumption | rfl) rfl rfl (Nat.le_of_ble_eq_true rfl) ?_
  (rintro v Γ' I2 R2 ⟨rfl, rfl, f⟩)
  exact PW.ireturn (pc := 22) dX10_wrong_22 rfl (CPo.of (fun q hq => by rw [f.1 q (by omega), y q (by omega)]) (fun q hq => f.2.1 q (by omega)) (A.cg f).rel)
set_option maxRecDepth 100000 in
set_option maxHeartbeats 1000000 in
theorem CVal.cg79 {I I' : PIm} {s : CS} {t sp : Nat} {ps : Int → Nat} {tb : Int → Tm} (hCA : CAt Γ R t sp) (HP : HPos Γ R 7 ps) (V : CVal s I t sp ps tb) (y : ∀ q, ¬ q = 79 → I' q = I q) : CVal s I' t sp ps tb := by
  obtain ⟨-, -, ⟨aT, aSp, tsp⟩, -⟩ := id hCA
  obtain ⟨vT, vF, vB, ⟨vN, vNo⟩, ⟨vH, vHo⟩, vI, vS, vK⟩ := id V
  exact ⟨(vT.congr rfl (fun q g => y q (by omega))), (vF.congr rfl (fun q g => y q (by omega)) (by rw [y (t + 1) (by omega)])), (vB.of (fun q g1 g2 => y q (by omega))), (⟨vN.cg (fun q g1 g2 => y q (by omega)), vNo⟩), (⟨vH.cg HP (fun q g1 g2 => y q (by omega)), vHo⟩), (vI.congr rfl rfl (fun q g => y q (by omega))), (by unfold CSee; rw [y 0 (by omega)]; exact vS), (vK.congr (fun q g1 g2 => y q (by omega)))⟩
noncomputable def nfrom (s : CS) : List Int → Int
  | [] => -9
  | f :: l => if cdec (ndOK s f) = true then f else nfrom s l
set_option maxRecDepth 100000 in
set_option maxHeartbeats 1000000 in
theorem sp_needed_eq (s : CS) : sp_needed s = nfrom s [0, 1, 2, 4, 3, 5, 6, 7] := rfl
set_option maxRecDepth 100000 in
set_option maxHeartbeats 1000000 in
theorem fw_drop : ∀ k : Fin 8, [0, 1, 2, 4, 3, 5, 6, 7].drop k.val = pw_fw (k.val : Int) :: [0, 1, 2, 4, 3, 5, 6, 7].drop (k.val + 1) ∧ 0 ≤ pw_fw (k.val : Int) ∧ pw_fw (k.val : Int) ≤ 7 := by decide
set_option maxRecDepth 100000 in
set_option maxHeartbeats 1000000 in
theorem p_needed (d : Nat) {I0 : PIm} {R0 : PRm} {s : CS} (h0 : CRel Γ s I0 R0) : PC sc mX10_needed (d + 7) 0 0 [.inr (some 0)] Γ I0 R0 (CPo Γ I0 R0 (sp_needed s) s) := by
  rw [sp_needed_eq]
  have loop : ∀ (N k : Nat) (I : PIm) (R : PRm) (o : Option PV), 8 - k = N → k ≤ 8 → CRel Γ s I R → (∀ q, 112 ≤ q → I q = I0 q) → (∀ q, 112 ≤ q → R q = R0 q) → PW sc mX10_needed (d + 7) 0 0 (CPo Γ I0 R0 (nfrom s ([0, 1, 2, 4, 3, 5, 6, 7].drop k)) s) 9 [some (.inr (some 0)), some (.inr (some 100001)), some (.inl 8), some (.inl (k : Int)), o] [] Γ I R := by
    intro N
    induction N using Nat.strongRecOn with
    | _ N ih =>
      intro k I R o hN hk h hI hR
      by_cases h8 : k < 8
      · obtain ⟨ed, f0, f7⟩ := fw_drop ⟨k, h8⟩
        dsimp only at ed f0 f7
        rw [ed, nfrom]
        obtain ⟨t, sp, ps, tb, hCA, HP, hV⟩ := id h
        obtain ⟨⟨c0, c1, c2, c3, c4, c5, c6, c7, c8, c9, c10, c11⟩, ⟨aR, aS, aH, aF, aC, aB, a79⟩, ⟨aT, aSp, tsp⟩, g49, r490, r491, aI0, aI1, g50⟩ := id hCA
        obtain ⟨vT, vF, vB, ⟨vN, vNo⟩, ⟨vH, vHo⟩, vI, vS, vK⟩ := id hV
        have aR0 := aR.1
        obtain ⟨aS0, aS1, aS2, aS3, aS4⟩ := id aS
        have aS5 := aS4.1
        have aH0 := aH.1
        have aF0 := aF.1
        have aC0 := aC.1
        have aB0 := aB.1
        have aT0 := aT.1
        have aT1 := aT.2.1
        have aT9 := aT.2.2.2.2.2.2.2.2.2.1
        have aT90 := aT9.1
        obtain ⟨vNok, vNoF⟩ := id vNo
        obtain ⟨o1, o2, o3, o4, o5, o6⟩ := id vNok
        obtain ⟨n1, n2, n3, n4, n5, n6⟩ := id vN
        have e3 : I 6 0 = vl (cNow s) := n3
        have e6 : I 3 2 = vi (cNow s) := n6
        have u3 : 0 ≤ vl (cNow s) ∧ vl (cNow s) ≤ 3 := o3
        have y0 : ∀ q, ¬ q = 79 → pw_up (pw_up (pw_up I 79 0 (vl (cNow s))) 79 1 (pw_fw k)) 79 2 0 q = I q := fun q g => by rw [pw_up_ne q g, pw_up_ne q g, pw_up_ne q g]
        have hV2 := CVal.cg79 hCA HP hV y0
        have t0 : pw_up (pw_up (pw_up I 79 0 (vl (cNow s))) 79 1 (pw_fw k)) 79 2 0 79 0 = vl (cNow s) := by rw [pw_up_other (by omega), pw_up_other (by omega), pw_up_self]
        have t1 : pw_up (pw_up (pw_up I 79 0 (vl (cNow s))) 79 1 (pw_fw k)) 79 2 0 79 1 = pw_fw k := by rw [pw_up_other (by omega), pw_up_self]
        have t2 : pw_up (pw_up (pw_up I 79 0 (vl (cNow s))) 79 1 (pw_fw k)) 79 2 0 79 2 = 0 := by rw [pw_up_self]
        generalize hI1 : pw_up (pw_up (pw_up I 79 0 (vl (cNow s))) 79 1 (pw_fw k)) 79 2 0 = I1 at y0 hV2 t0 t1 t2
        have wr := wrg_rg (cF s) (vi (cNow s)) (vP (cNow s)) (vl (cNow s)) (pw_fw k) 0 (vn (cNow s))
        refine PW.iload_n (pc := 9) dX10_needed_9 rfl ?_
        refine PW.iload_n (pc := 10) dX10_needed_10 rfl ?_
        refine PW.icmp_ge (pc := 11) (tgt := 70) dX10_needed_11 (by decide) (by first | omega | exact rg_of _) (by first | omega | exact rg_of _) (fun c_11 => ?_) (fun c_11 => ?_)
        · omega
        · refine PW.aload_n (pc := 14) dX10_needed_14 rfl ?_
          refine PW.iload_n (pc := 15) dX10_needed_15 rfl ?_
          refine PW.fld (pc := 16) dX10_needed_16 (by omega) (by omega) ?_
          refine PW.istore (pc := 17) dX10_needed_17 (by decide) ?_
          refine PW.aload_n (pc := 19) dX10_needed_19 rfl ?_
          refine PW.getr (pc := 20) dX10_needed_20 fl_X10_62 (by first | assumption | rfl) (by first | assumption | rfl) ?_
          refine PW.aload_n (pc := 23) dX10_needed_23 rfl ?_
          refine PW.getr (pc := 24) dX10_needed_24 fl_X10_19 (by first | assumption | rfl) (by first | assumption | rfl) ?_
          refine PW.getr (pc := 27) dX10_needed_27 fl_X10_161 (by first | assumption | rfl) (by first | assumption | rfl) ?_
          refine PW.geti (pc := 30) dX10_needed_30 fl_X10_231 (by decide) (by first | assumption | rfl) ?_
          rw [show I (3 + 3) 0 = vl (cNow s) from n3]
          refine PW.iload (pc := 33) dX10_needed_33 rfl ?_
          refine PW.iconst (pc := 35) dX10_needed_35 ?_
          refine PW.invV0x (pc := 36) dX10_needed_36 mv_X10_168 (c_X4_set _ a79) (by first | assumption | rfl) rfl rfl (Nat.le_of_ble_eq_true rfl) ?_
          rw [hI1]
          refine PW.aload_n (pc := 39) dX10_needed_39 rfl ?_
          refine PW.aload_n (pc := 40) dX10_needed_40 rfl ?_
          refine PW.getr (pc := 41) dX10_needed_41 fl_X10_62 (by first | assumption | rfl) (by first | assumption | rfl) ?_
          refine PW.invV0 (pc := 44) dX10_needed_44 mv_X10_206 (c_X10_goThrough (d + 1) hCA HP hV2 (pp := 79) (Or.inr rfl) t0 t1 t2 u3 (by omega)) (by first | assumption | rfl) rfl rfl (Nat.le_of_ble_eq_true rfl) ?_
          (rintro v Γ' I' R' ⟨rfl, rfl, rfl, y, tb', A, F⟩)
          refine PW.aload_n (pc := 47) dX10_needed_47 rfl ?_
          refine PW.aload_n (pc := 48) dX10_needed_48 rfl ?_
          refine PW.getr (pc := 49) dX10_needed_49 fl_X10_19 (by first | assumption | rfl) (by first | assumption | rfl) ?_
          refine PW.geti (pc := 52) dX10_needed_52 fl_X10_158 (by decide) (by first | assumption | rfl) ?_
          rw [y 3 (by omega), y0 3 (by omega), e6]
          refine PW.invV0 (pc := 55) dX10_needed_55 mv_X10_234 (c_X10_wrongBy _ A F) (by first | assumption | rfl) rfl rfl (Nat.le_of_ble_eq_true rfl) ?_
          (rintro v Γ' I2 R2 ⟨rfl, rfl, f⟩)
          have fI : ∀ q, 112 ≤ q → I2 q = I0 q := fun q hq => by rw [f.1 q (by omega), y q (by omega), y0 q (by omega), hI q hq]
          have fR : ∀ q, 112 ≤ q → R2 q = R0 q := fun q hq => by rw [f.2.1 q (by omega), hR q hq]
          refine PW.if_ne (pc := 58) (tgt := 64) dX10_needed_58 (by decide) (by first | omega | exact rg_of _) (fun c_58 => ?_) (fun c_58 => ?_)
          · refine PW.iinc (pc := 64) dX10_needed_64 rfl (by decide) ?_
            refine PW.goto (pc := 67) (tgt := 9) dX10_needed_67 (by decide) ?_
            rw [if_neg (show ¬ cdec (ndOK s (pw_fw k)) = true from fun o => c_58 (cdec_true.mp o))]; exact ih (8 - (k + 1)) (by omega) (k + 1) I2 R2 _ rfl (by omega) (A.cg f).rel fI fR
          · refine PW.iload (pc := 61) dX10_needed_61 rfl ?_
            exact PW.ireturn (pc := 63) dX10_needed_63 rfl (by rw [if_pos (cdec_true.mpr (show ndOK s (pw_fw k) from c_58))]; exact CPo.of fI fR (A.cg f).rel)
      · obtain rfl : k = 8 := by omega
        refine PW.iload_n (pc := 9) dX10_needed_9 rfl ?_
        refine PW.iload_n (pc := 10) dX10_needed_10 rfl ?_
        refine PW.icmp_ge (pc := 11) (tgt := 70) dX10_needed_11 (by decide) (by first | omega | exact rg_of _) (by first | omega | exact rg_of _) (fun c_11 => ?_) (fun c_11 => ?_)
        · refine PW.bipush (pc := 70) dX10_needed_70 (by decide) ?_
          exact PW.ireturn (pc := 72) dX10_needed_72 rfl (CPo.of hI hR h)
        · omega
  refine PC.ofPW (by decide) (Nat.le_of_ble_eq_true rfl) ?_
  refine PW.gets (pc := 0) dX10_needed_0 fs_X10_241 ?_
  refine PW.astore_n (pc := 3) dX10_needed_3 (by decide) ?_
  refine PW.aload_n (pc := 4) dX10_needed_4 rfl ?_
  refine PW.flen (pc := 5) dX10_needed_5 ?_
  refine PW.istore_n (pc := 6) dX10_needed_6 (by decide) ?_
  refine PW.iconst (pc := 7) dX10_needed_7 ?_
  refine PW.istore_n (pc := 8) dX10_needed_8 (by decide) ?_
  exact loop 8 0 I0 R0 _ rfl (by omega) h0 (fun _ _ => rfl) (fun _ _ => rfl)
set_option maxRecDepth 100000 in
set_option maxHeartbeats 1000000 in
theorem and_nat {x y : Int} (x0 : 0 ≤ x) (x1 : x ≤ 2147483647) (y0 : 0 ≤ y) (y1 : y ≤ 2147483647) : pw_and x y = ((x.toNat &&& y.toNat : Nat) : Int) := by
  unfold pw_and
  show ((Int32.ofInt x).toBitVec &&& (Int32.ofInt y).toBitVec).toInt = _
  rw [BitVec.toInt_and, ofi_nat x0 x1, ofi_nat y0 y1]
  have hlt : x.toNat &&& y.toNat ≤ x.toNat := Nat.and_le_left
  have e32 : (((2 ^ 32 : Nat) : Int)) = 4294967296 := by decide
  rw [Int.bmod_eq_of_le (by omega) (by omega)]
set_option maxRecDepth 100000 in
set_option maxHeartbeats 1000000 in
theorem bsum_and (f g : Int → Bool) : pw_and (bsum f 8) (bsum g 8) = bsum (fun j => f j && g j) 8 := by
  have F := bsum_rg f 8
  have G := bsum_rg g 8
  rw [and_nat F.1 (by omega) G.1 (by omega)]
  have key : ∀ k : Nat, (((bsum f k).toNat &&& (bsum g k).toNat : Nat) : Int) = bsum (fun j => f j && g j) k := by
    intro k
    induction k with
    | zero => simp [bsum]
    | succ k ih =>
      have F := bsum_rg f k
      have G := bsum_rg g k
      have e : (((2 ^ k : Nat)) : Int) = 2 ^ k := by simp
      have hm : ∀ (h : Int → Bool), (bsum h (k + 1)).toNat % 2 ^ k = (bsum h k).toNat ∧ (bsum h (k + 1)).toNat / 2 ^ k = (if h (k : Int) = true then 1 else 0) := by
        intro h
        have H := bsum_rg h k
        rw [bsum]
        split
        · rw [show (bsum h k + 2 ^ k).toNat = (bsum h k).toNat + 2 ^ k by omega]
          rw [Nat.add_mod_right, Nat.add_div_right _ (Nat.two_pow_pos k), Nat.mod_eq_of_lt (by omega), Nat.div_eq_of_lt (by omega)]
          exact ⟨rfl, rfl⟩
        · rw [Int.add_zero, Nat.mod_eq_of_lt (by omega), Nat.div_eq_of_lt (by omega)]
          exact ⟨rfl, rfl⟩
      obtain ⟨f1, f2⟩ := hm f
      obtain ⟨g1, g2⟩ := hm g
      have d1 := Nat.div_add_mod ((bsum f (k + 1)).toNat &&& (bsum g (k + 1)).toNat) (2 ^ k)
      rw [Nat.and_mod_two_pow, Nat.and_div_two_pow, f1, g1, f2, g2] at d1
      rw [← d1, bsum, ← ih]
      cases f (k : Int) <;> cases g (k : Int) <;> simp <;> omega
  exact key 8
set_option maxRecDepth 100000 in
set_option maxHeartbeats 1000000 in
theorem c_X10_forwardsBy (d : Nat) {I0 : PIm} {R0 : PRm} {s : CS} {x : Int} (hx : Rg x) (h0 : CRel Γ s I0 R0) : PC sc mX10_forwardsBy (d + 6) 0 0 [.inr (some 0), .inl x] Γ I0 R0 (CPo Γ I0 R0 (bsum (fun f => cdec (dif (vP (cNow s)) (vl (cNow s)) f 0 (vn (cNow s)) = x)) 8) s) := by
  have loop : ∀ (N k : Nat) (I : PIm) (R : PRm), 8 - k = N → k ≤ 8 → CRel Γ s I R → (∀ q, 112 ≤ q → I q = I0 q) → (∀ q, 112 ≤ q → R q = R0 q) → PW sc mX10_forwardsBy (d + 6) 0 0 (CPo Γ I0 R0 (bsum (fun f => cdec (dif (vP (cNow s)) (vl (cNow s)) f 0 (vn (cNow s)) = x)) 8) s) 4 [some (.inr (some 0)), some (.inl x), some (.inl (bsum (fun f => cdec (dif (vP (cNow s)) (vl (cNow s)) f 0 (vn (cNow s)) = x)) k)), some (.inl (k : Int))] [] Γ I R := by
    intro N
    induction N using Nat.strongRecOn with
    | _ N ih =>
      intro k I R hN hk h hI hR
      by_cases h8 : k < 8
      · obtain ⟨t, sp, ps, tb, hCA, HP, hV⟩ := id h
        obtain ⟨⟨c0, c1, c2, c3, c4, c5, c6, c7, c8, c9, c10, c11⟩, ⟨aR, aS, aH, aF, aC, aB, a79⟩, ⟨aT, aSp, tsp⟩, g49, r490, r491, aI0, aI1, g50⟩ := id hCA
        obtain ⟨vT, vF, vB, ⟨vN, vNo⟩, ⟨vH, vHo⟩, vI, vS, vK⟩ := id hV
        have aR0 := aR.1
        obtain ⟨aS0, aS1, aS2, aS3, aS4⟩ := id aS
        have aS5 := aS4.1
        have aH0 := aH.1
        have aF0 := aF.1
        have aC0 := aC.1
        have aB0 := aB.1
        have aT0 := aT.1
        have aT1 := aT.2.1
        have aT9 := aT.2.2.2.2.2.2.2.2.2.1
        have aT90 := aT9.1
        obtain ⟨vNok, vNoF⟩ := id vNo
        obtain ⟨o1, o2, o3, o4, o5, o6⟩ := id vNok
        obtain ⟨n1, n2, n3, n4, n5, n6⟩ := id vN
        have ob := or_bsum (fun f => cdec (dif (vP (cNow s)) (vl (cNow s)) f 0 (vn (cNow s)) = x)) (k := k) (by omega)
        have u3 : 0 ≤ vl (cNow s) ∧ vl (cNow s) ≤ 3 := o3
        have y0 : ∀ q, ¬ q = 79 → pw_up (pw_up (pw_up I 79 0 (vl (cNow s))) 79 1 k) 79 2 0 q = I q := fun q g => by rw [pw_up_ne q g, pw_up_ne q g, pw_up_ne q g]
        have hV2 := CVal.cg79 hCA HP hV y0
        have t0 : pw_up (pw_up (pw_up I 79 0 (vl (cNow s))) 79 1 k) 79 2 0 79 0 = vl (cNow s) := by rw [pw_up_other (by omega), pw_up_other (by omega), pw_up_self]
        have t1 : pw_up (pw_up (pw_up I 79 0 (vl (cNow s))) 79 1 k) 79 2 0 79 1 = k := by rw [pw_up_other (by omega), pw_up_self]
        have t2 : pw_up (pw_up (pw_up I 79 0 (vl (cNow s))) 79 1 k) 79 2 0 79 2 = 0 := by rw [pw_up_self]
        generalize hI1 : pw_up (pw_up (pw_up I 79 0 (vl (cNow s))) 79 1 k) 79 2 0 = I1 at y0 hV2 t0 t1 t2
        have dr := dif_rg (vP (cNow s)) (vl (cNow s)) k 0 (vn (cNow s))
        refine PW.iload_n (pc := 4) dX10_forwardsBy_4 rfl ?_
        refine PW.bipush (pc := 5) dX10_forwardsBy_5 (by decide) ?_
        refine PW.icmp_gt (pc := 7) (tgt := 60) dX10_forwardsBy_7 (by decide) (by first | omega | exact rg_of _) (by first | omega | exact rg_of _) (fun c_7 => ?_) (fun c_7 => ?_)
        · omega
        · refine PW.aload_n (pc := 10) dX10_forwardsBy_10 rfl ?_
          refine PW.getr (pc := 11) dX10_forwardsBy_11 fl_X10_62 (by first | assumption | rfl) (by first | assumption | rfl) ?_
          refine PW.aload_n (pc := 14) dX10_forwardsBy_14 rfl ?_
          refine PW.getr (pc := 15) dX10_forwardsBy_15 fl_X10_19 (by first | assumption | rfl) (by first | assumption | rfl) ?_
          refine PW.getr (pc := 18) dX10_forwardsBy_18 fl_X10_161 (by first | assumption | rfl) (by first | assumption | rfl) ?_
          refine PW.geti (pc := 21) dX10_forwardsBy_21 fl_X10_231 (by decide) (by first | assumption | rfl) ?_
          rw [show I (3 + 3) 0 = vl (cNow s) from n3]
          refine PW.iload_n (pc := 24) dX10_forwardsBy_24 rfl ?_
          refine PW.iconst (pc := 25) dX10_forwardsBy_25 ?_
          refine PW.invV0x (pc := 26) dX10_forwardsBy_26 mv_X10_168 (c_X4_set _ a79) (by first | assumption | rfl) rfl rfl (Nat.le_of_ble_eq_true rfl) ?_
          rw [hI1]
          refine PW.aload_n (pc := 29) dX10_forwardsBy_29 rfl ?_
          refine PW.aload_n (pc := 30) dX10_forwardsBy_30 rfl ?_
          refine PW.getr (pc := 31) dX10_forwardsBy_31 fl_X10_62 (by first | assumption | rfl) (by first | assumption | rfl) ?_
          refine PW.invV0 (pc := 34) dX10_forwardsBy_34 mv_X10_206 (c_X10_goThrough d hCA HP hV2 (pp := 79) (Or.inr rfl) t0 t1 t2 u3 (by omega)) (by first | assumption | rfl) rfl rfl (Nat.le_of_ble_eq_true rfl) ?_
          (rintro v Γ' I' R' ⟨rfl, rfl, rfl, y, tb', A, F⟩)
          have DF := c_X2_differing (sc := sc) (Γ := Γ') (R := R') (I := I') (d + 5) aF (F.rg (N := 116) (by have := A.2.2.1; omega) (by omega))
          rw [F.dif] at DF
          have fI : ∀ q, 112 ≤ q → I' q = I0 q := fun q hq => by rw [y q (by omega), y0 q (by omega), hI q hq]
          have nx := ih (8 - (k + 1)) (by omega) (k + 1) I' R' rfl (by omega) A.rel fI hR
          refine PW.aload_n (pc := 37) dX10_forwardsBy_37 rfl ?_
          refine PW.getr (pc := 38) dX10_forwardsBy_38 fl_X10_41 (by first | assumption | rfl) (by first | assumption | rfl) ?_
          refine PW.invV0x (pc := 41) dX10_forwardsBy_41 mv_X10_237 (DF) (by first | assumption | rfl) rfl rfl (Nat.le_of_ble_eq_true rfl) ?_
          refine PW.iload_n (pc := 44) dX10_forwardsBy_44 rfl ?_
          refine PW.icmp_ne (pc := 45) (tgt := 54) dX10_forwardsBy_45 (by decide) (by first | omega | exact rg_of _) (by first | omega | exact rg_of _) (fun c_45 => ?_) (fun c_45 => ?_)
          · refine PW.iinc (pc := 54) dX10_forwardsBy_54 rfl (by decide) ?_
            refine PW.goto (pc := 57) (tgt := 4) dX10_forwardsBy_57 (by decide) ?_
            first
            | exact nx
            | (rw [if_neg (show ¬ cdec (dif (vP (cNow s)) (vl (cNow s)) k 0 (vn (cNow s)) = x) = true from fun o => c_45 (cdec_true.mp o))] at ob; rw [ob]; exact nx)
          · rw [if_pos (cdec_true.mpr c_45)] at ob
            refine PW.iload_n (pc := 48) dX10_forwardsBy_48 rfl ?_
            refine PW.iconst (pc := 49) dX10_forwardsBy_49 ?_
            refine PW.iload_n (pc := 50) dX10_forwardsBy_50 rfl ?_
            refine PW.ishl (pc := 51) dX10_forwardsBy_51 ?_
            refine PW.ior (pc := 52) dX10_forwardsBy_52 ?_
            rw [ob]
            refine PW.istore_n (pc := 53) dX10_forwardsBy_53 (by decide) ?_
            refine PW.iinc (pc := 54) dX10_forwardsBy_54 rfl (by decide) ?_
            refine PW.goto (pc := 57) (tgt := 4) dX10_forwardsBy_57 (by decide) ?_
            first
            | exact nx
            | (rw [if_neg (show ¬ cdec (dif (vP (cNow s)) (vl (cNow s)) k 0 (vn (cNow s)) = x) = true from fun o => c_45 (cdec_true.mp o))] at ob; rw [ob]; exact nx)
      · obtain rfl : k = 8 := by omega
        refine PW.iload_n (pc := 4) dX10_forwardsBy_4 rfl ?_
        refine PW.bipush (pc := 5) dX10_forwardsBy_5 (by decide) ?_
        refine PW.icmp_gt (pc := 7) (tgt := 60) dX10_forwardsBy_7 (by decide) (by first | omega | exact rg_of _) (by first | omega | exact rg_of _) (fun c_7 => ?_) (fun c_7 => ?_)
        · refine PW.iload_n (pc := 60) dX10_forwardsBy_60 rfl ?_
          exact PW.ireturn (pc := 61) dX10_forwardsBy_61 rfl (CPo.of hI hR h)
        · omega
  refine PC.ofPW (by decide) (Nat.le_of_ble_eq_true rfl) ?_
  refine PW.iconst (pc := 0) dX10_forwardsBy_0 ?_
  refine PW.istore_n (pc := 1) dX10_forwardsBy_1 (by decide) ?_
  refine PW.iconst (pc := 2) dX10_forwardsBy_2 ?_
  refine PW.istore_n (pc := 3) dX10_forwardsBy_3 (by decide) ?_
  exact loop 8 0 I0 R0 rfl (by omega) h0 (fun _ _ => rfl) (fun _ _ => rfl)
set_option maxRecDepth 100000 in
set_option maxHeartbeats 1000000 in
theorem unsn_step (n : Nat) (rw_ : Int → Int × SV) (x : Int) (v : SV) : pw_and (unsn n rw_) (bsum (fun f => cdec (dif (vP v) (vl v) f 0 (vn v) = x)) 8) = unsn (n + 1) (fun j => if j = (n : Int) then (x, v) else rw_ j) := by
  unfold unsn
  rw [bsum_and]
  refine bsum_congr 8 (fun f f0 f1 => ?_)
  dsimp only
  rw [Bool.eq_iff_iff, Bool.and_eq_true, cdec_true, cdec_true, cdec_true]
  constructor
  · rintro ⟨a, b⟩ k k0 k1
    by_cases e : k = (n : Int)
    · rw [if_pos e]; exact b
    · rw [if_neg e]; exact a k k0 (by omega)
  · intro a
    refine ⟨fun k k0 k1 => ?_, ?_⟩
    · have := a k k0 (by omega)
      rw [if_neg (by omega)] at this
      exact this
    · have := a n (by omega) (by omega)
      rw [if_pos rfl] at this
      exact this
set_option maxRecDepth 100000 in
set_option maxHeartbeats 1000000 in
theorem p_sees (d : Nat) {I : PIm} {s : CS} {x : Int} (h : CRel Γ s I R) (hx : Rg x) : PC sc mX10_sees (d + 7) 0 0 [.inr (some 0), .inl x] Γ I R (CPo Γ I R (sp_sees s x).1 (sp_sees s x).2) := by
  obtain ⟨t, sp, ps, tb, hCA, HP, hV⟩ := id h
  obtain ⟨⟨c0, c1, c2, c3, c4, c5, c6, c7, c8, c9, c10, c11⟩, ⟨aR, aS, aH, aF, aC, aB, a79⟩, ⟨aT, aSp, tsp⟩, g49, r490, r491, aI0, aI1, g50⟩ := id hCA
  obtain ⟨vT, vF, vB, ⟨vN, vNo⟩, ⟨vH, vHo⟩, vI, vS, vK⟩ := id hV
  have aR0 := aR.1
  obtain ⟨aS0, aS1, aS2, aS3, aS4⟩ := id aS
  have aS5 := aS4.1
  have aH0 := aH.1
  have aF0 := aF.1
  have aC0 := aC.1
  have aB0 := aB.1
  have aT0 := aT.1
  have aT1 := aT.2.1
  have aT9 := aT.2.2.2.2.2.2.2.2.2.1
  have aT90 := aT9.1
  obtain ⟨vNok, vNoF⟩ := id vNo
  obtain ⟨o1, o2, o3, o4, o5, o6⟩ := id vNok
  obtain ⟨n1, n2, n3, n4, n5, n6⟩ := id vN
  refine PC.ofPW (by decide) (Nat.le_of_ble_eq_true rfl) ?_
  obtain ⟨s1, s2, s3⟩ := id vS
  unfold sp_sees
  by_cases g : 0 ≤ x ∧ x ≤ 15
  · rw [if_neg (fun o => o g)]
    by_cases g4 : 4 ≤ cNs s
    · rw [if_pos g4]
      refine PW.iload_n (pc := 0) dX10_sees_0 rfl ?_
      refine PW.if_lt (pc := 1) (tgt := 10) dX10_sees_1 (by decide) (by first | omega | exact rg_of _) (fun c_1 => ?_) (fun c_1 => ?_)
      · omega
      · refine PW.iload_n (pc := 4) dX10_sees_4 rfl ?_
        refine PW.bipush (pc := 5) dX10_sees_5 (by decide) ?_
        refine PW.icmp_le (pc := 7) (tgt := 12) dX10_sees_7 (by decide) (by first | omega | exact rg_of _) (by first | omega | exact rg_of _) (fun c_7 => ?_) (fun c_7 => ?_)
        · refine PW.aload_n (pc := 12) dX10_sees_12 rfl ?_
          refine PW.geti (pc := 13) dX10_sees_13 fl_X10_89 (by decide) (by first | assumption | rfl) ?_
          refine PW.iconst (pc := 16) dX10_sees_16 ?_
          refine PW.icmp_lt (pc := 17) (tgt := 23) dX10_sees_17 (by decide) (by first | omega | exact rg_of _) (by first | omega | exact rg_of _) (fun c_17 => ?_) (fun c_17 => ?_)
          · omega
          · refine PW.bipush (pc := 20) dX10_sees_20 (by decide) ?_
            exact PW.ireturn (pc := 22) dX10_sees_22 rfl (CPo.same h)
        · omega
    · rw [if_neg g4]
      have triv : unsn (cNs s + 1) (fun j => if j = (cNs s : Int) then (0, (fun _ => 0, 0, 0, 0, 0, 0)) else cSeen s j) = unsn (cNs s) (cSeen s) := by
        unfold unsn
        refine bsum_congr 8 (fun f f0 f1 => ?_)
        refine cdec_congr ⟨fun a k k0 k1 => ?_, fun a k k0 k1 => ?_⟩
        · have := a k k0 (by omega)
          dsimp only at this
          rw [if_neg (by omega)] at this
          exact this
        · dsimp only
          by_cases e : k = (cNs s : Int)
          · rw [if_pos e]
            exact bsum_zero _ 4 (fun j _ _ => @decide_eq_false _ (Classical.propDecidable _) (fun o => o rfl))
          · rw [if_neg e]; exact a k k0 (by omega)
      have y : ∀ q, ¬ q = 0 → pw_up I 0 11 ((cNs s : Int) + 1) q = I q := fun q g => pw_up_ne q g
      have h1 : CRel Γ (s.1, s.2.1, s.2.2.1, s.2.2.2.1, s.2.2.2.2.1, (cNs s + 1, fun j => if j = (cNs s : Int) then (0, (fun _ => 0, 0, 0, 0, 0, 0)) else cSeen s j)) (pw_up I 0 11 ((cNs s : Int) + 1)) R := ⟨t, sp, ps, tb, hCA, HP, (vT.congr rfl (fun q g => y q (by omega))), (vF.congr rfl (fun q g => y q (by omega)) (by rw [y (t + 1) (by omega)])), (vB.of (fun q g1 g2 => y q (by omega))), (⟨vN.cg (fun q g1 g2 => y q (by omega)), vNo⟩), (⟨vH.cg HP (fun q g1 g2 => y q (by omega)), vHo⟩), (vI.congr rfl rfl (fun q g => y q (by omega))), ⟨by rw [pw_up_self]; exact (Int.natCast_succ _).symm, (by show cNs s + 1 ≤ 4; omega), by rw [pw_up_other (by omega), s3]; exact triv.symm⟩, (vK.congr (fun q g1 g2 => y q (by omega)))⟩
      have fin : ∀ (I' : PIm) (R' : PRm), CRel Γ (s.1, s.2.1, s.2.2.1, s.2.2.2.1, s.2.2.2.2.1, (cNs s + 1, fun j => if j = (cNs s : Int) then (0, (fun _ => 0, 0, 0, 0, 0, 0)) else cSeen s j)) I' R' → CRel Γ (s.1, s.2.1, s.2.2.1, s.2.2.2.1, s.2.2.2.2.1, (cNs s + 1, fun j => if j = (cNs s : Int) then (x, cNow s) else cSeen s j)) (pw_up I' 0 12 (pw_and (unsn (cNs s) (cSeen s)) (bsum (fun f => cdec (dif (vP (cNow s)) (vl (cNow s)) f 0 (vn (cNow s)) = x)) 8))) R' ∧ I' 0 11 = (cNs s : Int) + 1 ∧ Γ[0]? = some (.inl 10) ∧ pw_up I' 0 12 (pw_and (unsn (cNs s) (cSeen s)) (bsum (fun f => cdec (dif (vP (cNow s)) (vl (cNow s)) f 0 (vn (cNow s)) = x)) 8)) 0 11 = (cNs s : Int) + 1 := by
        intro I' R' h
        obtain ⟨t, sp, ps, tb, hCA, HP, hV⟩ := id h
        obtain ⟨⟨c0, c1, c2, c3, c4, c5, c6, c7, c8, c9, c10, c11⟩, ⟨aR, aS, aH, aF, aC, aB, a79⟩, ⟨aT, aSp, tsp⟩, g49, r490, r491, aI0, aI1, g50⟩ := id hCA
        obtain ⟨vT, vF, vB, ⟨vN, vNo⟩, ⟨vH, vHo⟩, vI, vS, vK⟩ := id hV
        have aR0 := aR.1
        obtain ⟨aS0, aS1, aS2, aS3, aS4⟩ := id aS
        have aS5 := aS4.1
        have aH0 := aH.1
        have aF0 := aF.1
        have aC0 := aC.1
        have aB0 := aB.1
        have aT0 := aT.1
        have aT1 := aT.2.1
        have aT9 := aT.2.2.2.2.2.2.2.2.2.1
        have aT90 := aT9.1
        obtain ⟨vNok, vNoF⟩ := id vNo
        obtain ⟨o1, o2, o3, o4, o5, o6⟩ := id vNok
        obtain ⟨n1, n2, n3, n4, n5, n6⟩ := id vN
        have y : ∀ q, ¬ q = 0 → pw_up I' 0 12 (pw_and (unsn (cNs s) (cSeen s)) (bsum (fun f => cdec (dif (vP (cNow s)) (vl (cNow s)) f 0 (vn (cNow s)) = x)) 8)) q = I' q := fun q g => pw_up_ne q g
        have s1' : I' 0 11 = (cNs s : Int) + 1 := vS.1.trans (Int.natCast_succ _)
        exact ⟨⟨t, sp, ps, tb, hCA, HP, (vT.congr rfl (fun q g => y q (by omega))), (vF.congr rfl (fun q g => y q (by omega)) (by rw [y (t + 1) (by omega)])), (vB.of (fun q g1 g2 => y q (by omega))), (⟨vN.cg (fun q g1 g2 => y q (by omega)), vNo⟩), (⟨vH.cg HP (fun q g1 g2 => y q (by omega)), vHo⟩), (vI.congr rfl rfl (fun q g => y q (by omega))), ⟨by rw [pw_up_other (by omega)]; exact vS.1, vS.2.1, by rw [pw_up_self]; exact unsn_step _ _ _ _⟩, (vK.congr (fun q g1 g2 => y q (by omega)))⟩, s1', c0, by rw [pw_up_other (by omega)]; exact s1'⟩
      refine PW.iload_n (pc := 0) dX10_sees_0 rfl ?_
      refine PW.if_lt (pc := 1) (tgt := 10) dX10_sees_1 (by decide) (by first | omega | exact rg_of _) (fun c_1 => ?_) (fun c_1 => ?_)
      · omega
      · refine PW.iload_n (pc := 4) dX10_sees_4 rfl ?_
        refine PW.bipush (pc := 5) dX10_sees_5 (by decide) ?_
        refine PW.icmp_le (pc := 7) (tgt := 12) dX10_sees_7 (by decide) (by first | omega | exact rg_of _) (by first | omega | exact rg_of _) (fun c_7 => ?_) (fun c_7 => ?_)
        · refine PW.aload_n (pc := 12) dX10_sees_12 rfl ?_
          refine PW.geti (pc := 13) dX10_sees_13 fl_X10_89 (by decide) (by first | assumption | rfl) ?_
          refine PW.iconst (pc := 16) dX10_sees_16 ?_
          refine PW.icmp_lt (pc := 17) (tgt := 23) dX10_sees_17 (by decide) (by first | omega | exact rg_of _) (by first | omega | exact rg_of _) (fun c_17 => ?_) (fun c_17 => ?_)
          · refine PW.aload_n (pc := 23) dX10_sees_23 rfl ?_
            refine PW.dup (pc := 24) dX10_sees_24 ?_
            refine PW.geti (pc := 25) dX10_sees_25 fl_X10_89 (by decide) (by first | assumption | rfl) ?_
            rw [s1]
            refine PW.iconst (pc := 28) dX10_sees_28 ?_
            refine PW.iadd (pc := 29) dX10_sees_29 ?_
            refine PW.puti (pc := 30) dX10_sees_30 fl_X10_89 (by first | assumption | rfl) ?_
            refine PW.aload_n (pc := 33) dX10_sees_33 rfl ?_
            refine PW.dup (pc := 34) dX10_sees_34 ?_
            refine PW.geti (pc := 35) dX10_sees_35 fl_X10_93 (by decide) (by first | assumption | rfl) ?_
            rw [pw_up_other (by omega), s3]
            refine PW.aload_n (pc := 38) dX10_sees_38 rfl ?_
            refine PW.iload_n (pc := 39) dX10_sees_39 rfl ?_
            refine PW.invV0 (pc := 40) dX10_sees_40 mv_X10_263 (c_X10_forwardsBy _ hx h1) (by first | assumption | rfl) rfl rfl (Nat.le_of_ble_eq_true rfl) ?_
            (rintro v Γ' I' R' ⟨rfl, rfl, fI, fR, hr⟩; obtain ⟨f1, f2, f3, f4⟩ := fin _ _ hr)
            refine PW.iand (pc := 43) dX10_sees_43 ?_
            refine PW.puti (pc := 44) dX10_sees_44 fl_X10_93 (by first | assumption | rfl) ?_
            refine PW.aload_n (pc := 47) dX10_sees_47 rfl ?_
            refine PW.geti (pc := 48) dX10_sees_48 fl_X10_89 (by decide) (by first | assumption | rfl) ?_
            refine Eq.mp (congrArg (fun z => PW _ _ _ _ _ _ _ _ [.inl z] _ _ _) f4.symm) ?_
            exact PW.ireturn (pc := 51) dX10_sees_51 rfl (CPo.of (fun q hq => by rw [pw_up_ne q (by omega), fI q hq, y q (by omega)]) fR f1)
          · omega
        · omega
  · rw [if_pos g]
    refine PW.iload_n (pc := 0) dX10_sees_0 rfl ?_
    refine PW.if_lt (pc := 1) (tgt := 10) dX10_sees_1 (by decide) (by first | omega | exact rg_of _) (fun c_1 => ?_) (fun c_1 => ?_)
    · refine PW.iconst (pc := 10) dX10_sees_10 ?_
      exact PW.ireturn (pc := 11) dX10_sees_11 rfl (CPo.same h)
    · refine PW.iload_n (pc := 4) dX10_sees_4 rfl ?_
      refine PW.bipush (pc := 5) dX10_sees_5 (by decide) ?_
      refine PW.icmp_le (pc := 7) (tgt := 12) dX10_sees_7 (by decide) (by first | omega | exact rg_of _) (by first | omega | exact rg_of _) (fun c_7 => ?_) (fun c_7 => ?_)
      · omega
      · refine PW.iconst (pc := 10) dX10_sees_10 ?_
        exact PW.ireturn (pc := 11) dX10_sees_11 rfl (CPo.same h)
end NEEDED
