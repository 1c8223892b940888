section READALL
variable {sc : PSc} {Γ : List PTy} {R : PRm}
set_option maxRecDepth 100000 in
set_option maxHeartbeats 1000000 in
theorem or_digd : ∀ a : Fin 16, ∀ b : Fin 4, pw_or (pw_shl (a.val : Int) 2) (b.val : Int) = (a.val : Int) * 4 + (b.val : Int) := by decide +kernel
set_option maxRecDepth 100000 in
set_option maxHeartbeats 1000000 in
theorem or_dig {a b : Int} (a0 : 0 ≤ a) (a1 : a < 16) (b0 : 0 ≤ b) (b1 : b < 4) : pw_or (pw_shl a 2) b = a * 4 + b := by
  have := or_digd ⟨a.toNat, by omega⟩ ⟨b.toNat, by omega⟩
  simpa [Int.toNat_of_nonneg a0, Int.toNat_of_nonneg b0] using this
set_option maxRecDepth 100000 in
set_option maxHeartbeats 1000000 in
theorem or_code1 : ∀ v : Fin 16, pw_or 64 (pw_shl (v.val : Int) 2) = 64 + (v.val : Int) * 4 := by decide +kernel
set_option maxRecDepth 100000 in
set_option maxHeartbeats 1000000 in
theorem or_code2 : ∀ v : Fin 64, pw_or 128 (pw_shl (v.val : Int) 0) = 128 + (v.val : Int) := by decide +kernel
set_option maxRecDepth 100000 in
set_option maxHeartbeats 1000000 in
theorem or_code {k : Nat} {v : Int} (hk : k ≤ 2) (v0 : 0 ≤ v) (hv : v < 4 ^ (if k = 0 then 0 else k + 1)) : pw_or (64 * (k : Int)) (pw_shl v (2 * (3 - (if k = 0 then 0 else (k : Int) + 1)))) = 64 * (k : Int) + v * (if k = 1 then 4 else 1) ∧ okc (64 * (k : Int) + v * (if k = 1 then 4 else 1)) := by
  match k, hk with
  | 0, _ =>
    have hv' : v < 1 := hv
    obtain rfl : v = 0 := by omega
    exact ⟨by decide +kernel, by decide⟩
  | 1, _ =>
    have hv' : v < 16 := hv
    have := or_code1 ⟨v.toNat, by omega⟩
    simp only [Int.toNat_of_nonneg v0] at this
    exact ⟨this, by show 0 ≤ 64 * 1 + v * 4 ∧ 64 * 1 + v * 4 < 192; omega⟩
  | 2, _ =>
    have hv' : v < 64 := hv
    have := or_code2 ⟨v.toNat, by omega⟩
    simp only [Int.toNat_of_nonneg v0] at this
    exact ⟨by show pw_or 128 (pw_shl v 0) = 128 + v * 1; rw [this]; omega, by show 0 ≤ 64 * 2 + v * 1 ∧ 64 * 2 + v * 1 < 192; omega⟩
set_option maxRecDepth 100000 in
set_option maxHeartbeats 1000000 in
/-- figures: places and sizes -/
theorem pF_rg {tx : Int → Int} {n : Int} : ∀ (k : Nat) (p acc : Int), 0 ≤ acc → p ≤ n → (p ≤ (pF tx n k p acc).2 ∧ (pF tx n k p acc).2 ≤ n) ∧ ∀ v, (pF tx n k p acc).1 = some v → 0 ≤ v ∧ v < (acc + 1) * 4 ^ k
  | 0, p, acc, ha, hp => by
    rw [pF]
    refine ⟨by dsimp only; omega, fun v hv => ?_⟩
    have : acc = v := by simpa using hv
    subst this
    rw [Int.pow_zero]
    omega
  | k + 1, p, acc, ha, hp => by
    have h1 := skp_ge tx hp
    rw [pF]
    split
    next h =>
      have h2 := tok_lt (tx := tx) (n := n) (p := p) (by omega)
      have := pF_rg (tx := tx) (n := n) k (skp tx n p + 1) (acc * 4 + (tok tx n p - 48)) (by omega) (by omega)
      refine ⟨by omega, fun v hv => ?_⟩
      have h3 := this.2 v hv
      have e : (4 : Int) ^ (k + 1) = 4 ^ k * 4 := Int.pow_succ 4 k
      have hp4 : (0 : Int) < 4 ^ k := Int.pow_pos (by decide)
      refine ⟨h3.1, Int.lt_of_lt_of_le h3.2 ?_⟩
      rw [e, show (acc + 1) * ((4 : Int) ^ k * 4) = (acc * 4 + 4) * 4 ^ k by rw [Int.mul_comm (4 ^ k) 4, ← Int.mul_assoc]; congr 1; omega]
      exact Int.mul_le_mul_of_nonneg_right (by omega) (by omega)
    next h => exact ⟨by dsimp only; omega, fun v hv => by simp at hv⟩
set_option maxRecDepth 100000 in
set_option maxHeartbeats 1000000 in
theorem c_X6_readInstruction (d : Nat) {I : PIm} {r t : Nat} {n p : Int} {σ : PS} {tb : Int → Tm} (A : ReadAt Γ R r) (T : ToldAt Γ R t) (hn : I r 1 = n) (hp : I r 2 = p) (hx : TxOK (I (r + 1)) n) (h0 : 0 ≤ p) (h1 : p < n) {k : Nat} (hk : k ≤ 2) (PI : PInv I t σ tb p) (hdj : r + 1 < t) :
    PC sc mX6_readInstruction (d + 2) 0 0 [.inr (some r), .inr (some t), .inl (k : Int)] Γ I R (IPp Γ R I r t (if 6 ≤ σ.2.2 then (none, p) else pIns (I (r + 1)) n σ k (p + 1))) := by
  have a0 := A.1
  obtain ⟨t0, t1, t2, t3, t4, t5, t6, t7, t8, t9, t10⟩ := id T
  have t10' := t10.1
  obtain ⟨PF, PP, PTb, PU, PZ⟩ := id PI
  obtain ⟨P1, P2, P3⟩ := id PP
  have hn100 := hx.1
  refine PC.ofPW (by decide) (Nat.le_of_ble_eq_true rfl) ?_
  by_cases h6 : 6 ≤ σ.2.2
  · rw [if_pos h6]
    refine PW.aload_n (pc := 0) dX6_readInstruction_0 rfl ?_
    refine PW.getr (pc := 1) dX6_readInstruction_1 fl_X6_71 (by first | assumption | rfl) (by first | assumption | rfl) ?_
    refine PW.geti (pc := 4) dX6_readInstruction_4 fl_X6_75 (by decide) (by first | assumption | rfl) ?_
    rw [P1]
    refine PW.bipush (pc := 7) dX6_readInstruction_7 (by decide) ?_
    refine PW.icmp_lt (pc := 9) (tgt := 14) dX6_readInstruction_9 (by decide) (by first | omega | exact rg_of _) (by first | omega | exact rg_of _) (fun c_9 => ?_) (fun c_9 => ?_)
    · omega
    · refine PW.iconst (pc := 12) dX6_readInstruction_12 ?_
      exact PW.zreturn (pc := 13) dX6_readInstruction_13 rfl (by first | exact Or.inl rfl | exact Or.inr rfl | omega) (⟨rfl, rfl, hp, fun _ _ _ _ => rfl, rfl, PTb.base⟩)
  · rw [if_neg h6]
    unfold pIns
    have z1 : ∀ v q z, ¬ (q = r ∧ z = 2) → pw_up I r 2 v q z = I q z := fun v q z hq => pw_up_other hq
    have etx : ∀ v, pw_up I r 2 v (r + 1) = I (r + 1) := fun v => funext fun z => z1 _ _ _ (by omega)
    have er1 : ∀ v, pw_up I r 2 v r 1 = n := fun v => by rw [z1 _ _ _ (by omega)]; exact hn
    have bs : ∀ v, Base (pw_up I r 2 v) (t + 1) := fun v => PTb.base.congr (fun q a b k => z1 _ _ _ (by omega))
    have loop : ∀ (N i : Nat) (fg p' acc : Int) (o6 : Option PV), fg = (if k = 0 then 0 else (k : Int) + 1) → (i : Int) + N = fg → 0 ≤ acc → acc < 4 ^ i → 0 ≤ p' → p' ≤ n → pF (I (r + 1)) n N p' acc = pF (I (r + 1)) n (if k = 0 then 0 else k + 1) (p + 1) 0 → p + 1 ≤ p' → PW sc mX6_readInstruction (d + 2) 0 0 (IPp Γ R I r t (match pF (I (r + 1)) n (if k = 0 then 0 else k + 1) (p + 1) 0 with
      | (none, f) => (none, f)
      | (some v, p1) => if tok (I (r + 1)) n p1 = 59 then (some (σ.1, ppush σ.2.1 σ.2.2 (64 * (k : Int) + v * (if k = 1 then 4 else 1)), σ.2.2 + 1), skp (I (r + 1)) n p1 + 1) else (none, skp (I (r + 1)) n p1))) 42 [some (.inr (some r)), some (.inr (some t)), some (.inl (k : Int)), some (.inl fg), some (.inl acc), some (.inl (i : Int)), o6] [] Γ (pw_up I r 2 p') R := by
      intro N
      induction N with
      | zero =>
        intro i fg p' acc o6 hfg hi ac0 ac1 q0 q1 he hpp
        rw [← he, pF]
        dsimp only
        have hi' : i = (if k = 0 then 0 else k + 1) := by
          rw [hfg] at hi
          split at hi <;> split <;> omega
        rw [hi'] at ac1
        have oc := or_code hk ac0 ac1
        have hsk := skp_ge (I (r + 1)) q1
        have CA := c_X6_accept (sc := sc) (Γ := Γ) (R := R) d (I := pw_up I r 2 p') (n := n) (p := p') (c := 59) A (er1 _) (pw_up_self _ _ _ _) (by rw [etx]; exact hx) q0 q1 (by omega)
        rw [etx, pw_up_up] at CA
        have hfr : 0 ≤ fg ∧ fg ≤ 3 := by rw [hfg]; split <;> omega
        by_cases hs : tok (I (r + 1)) n p' = 59
        · rw [if_pos hs]
          rw [bi_pos hs, if_pos hs] at CA
          have y1 : pw_up I r 2 (skp (I (r + 1)) n p' + 1) (t + 7) 1 = σ.2.2 := by rw [z1 _ _ _ (by omega)]; exact P1
          have ecd : pw_or (pw_or (pw_or (pw_or (pw_shl (k : Int) 6) (pw_shl 0 4)) (pw_shl 0 2)) 0) (pw_shl acc (2 * (3 - fg))) = 64 * (k : Int) + acc * (if k = 1 then 4 else 1) := by
            rw [code_mk (by omega) (by omega) (by omega) (by omega), show 64 * (k : Int) + 16 * 0 + 4 * 0 + 0 = 64 * (k : Int) by omega, hfg]
            exact oc.1
          refine PW.iload (pc := 42) dX6_readInstruction_42 rfl ?_
          refine PW.iload_n (pc := 44) dX6_readInstruction_44 rfl ?_
          refine PW.icmp_ge (pc := 45) (tgt := 98) dX6_readInstruction_45 (by decide) (by first | omega | exact rg_of _) (by first | omega | exact rg_of _) (fun c_45 => ?_) (fun c_45 => ?_)
          · refine PW.aload_n (pc := 98) dX6_readInstruction_98 rfl ?_
            refine PW.bipush (pc := 99) dX6_readInstruction_99 (by decide) ?_
            refine PW.invV0x (pc := 101) dX6_readInstruction_101 mv_X6_59 (CA) (by first | assumption | rfl) rfl rfl (Nat.le_of_ble_eq_true rfl) ?_
            refine PW.if_ne (pc := 104) (tgt := 109) dX6_readInstruction_104 (by decide) (by first | omega | exact rg_of _) (fun c_104 => ?_) (fun c_104 => ?_)
            · refine PW.iconst (pc := 109) dX6_readInstruction_109 ?_
              refine PW.iload_n (pc := 110) dX6_readInstruction_110 rfl ?_
              refine PW.isub (pc := 111) dX6_readInstruction_111 ?_
              refine PW.istore (pc := 112) dX6_readInstruction_112 (by decide) ?_
              refine PW.aload_n (pc := 114) dX6_readInstruction_114 rfl ?_
              refine PW.getr (pc := 115) dX6_readInstruction_115 fl_X6_71 (by first | assumption | rfl) (by first | assumption | rfl) ?_
              refine PW.aload_n (pc := 118) dX6_readInstruction_118 rfl ?_
              refine PW.getr (pc := 119) dX6_readInstruction_119 fl_X6_71 (by first | assumption | rfl) (by first | assumption | rfl) ?_
              refine PW.geti (pc := 122) dX6_readInstruction_122 fl_X6_75 (by decide) (by first | assumption | rfl) ?_
              refine PW.iload_n (pc := 125) dX6_readInstruction_125 rfl ?_
              refine PW.iconst (pc := 126) dX6_readInstruction_126 ?_
              refine PW.iconst (pc := 127) dX6_readInstruction_127 ?_
              refine PW.iconst (pc := 128) dX6_readInstruction_128 ?_
              refine PW.invS0x (pc := 129) dX6_readInstruction_129 ms_X6_78 (c_X5_codeOf _) rfl rfl (Nat.le_of_ble_eq_true rfl) ?_
              refine PW.iload (pc := 132) dX6_readInstruction_132 rfl ?_
              refine PW.iconst (pc := 134) dX6_readInstruction_134 ?_
              refine PW.iload (pc := 135) dX6_readInstruction_135 rfl ?_
              refine PW.imul (pc := 137) dX6_readInstruction_137 ?_
              refine PW.ishl (pc := 138) dX6_readInstruction_138 ?_
              refine PW.ior (pc := 139) dX6_readInstruction_139 ?_
              rw [y1, ecd]
              refine PW.invV0x (pc := 140) dX6_readInstruction_140 mv_X6_82 (c_X5_set _ t10 (by omega) (by omega) (by rw [y1]; omega) (by rw [y1]; omega)) (by first | assumption | rfl) rfl rfl (Nat.le_of_ble_eq_true rfl) ?_
              refine PW.iconst (pc := 143) dX6_readInstruction_143 ?_
              exact PW.zreturn (pc := 144) dX6_readInstruction_144 rfl (by first | exact Or.inl rfl | exact Or.inr rfl | omega) (by
              rw [y1, if_pos rfl]
              generalize hI3 : pw_up I r 2 (skp (I (r + 1)) n p' + 1) = I3 at *
              have w3 : ∀ q z, ¬ (q = r ∧ z = 2) → I3 q z = I q z := fun q z g2 => by rw [← hI3, pw_up_other g2]
              have w4 : ∀ q z, q ≠ t + 7 → q ≠ t + 8 → pw_up (pw_up I3 (t + 7 + 1) (σ.2.2 : Int) (64 * (k : Int) + acc * (if k = 1 then 4 else 1))) (t + 7) 1 ((σ.2.2 : Int) + 1) q z = I3 q z := fun q z g1 g2 => by rw [pw_up_other (by omega), pw_up_other (by omega)]
              refine ⟨rfl, rfl, ?_, fun q z g1 g2 => by rw [w4 q z (by omega) (by omega), w3 q z g2], rfl, tb, PF.grow (fun q a k => by rw [w4 q k (by omega) (by omega), w3 _ _ (by omega)]) (by rw [w4 _ _ (by omega) (by omega), w3 _ _ (by omega)]; omega) (fun _ _ => rfl), ⟨by rw [pw_up_self]; rfl, by show σ.2.2 + 1 ≤ 6; omega, fun k' g0 g1 => ?_⟩, ?_, ?_, ?_⟩
              · rw [w4 r 2 (by omega) (by omega), ← hI3, pw_up_self]
              · have g1' : k' < (σ.2.2 : Int) + 1 := g1
                show _ = ppush σ.2.1 σ.2.2 _ k' ∧ okc (ppush σ.2.1 σ.2.2 _ k')
                unfold ppush
                by_cases q : k' = (σ.2.2 : Int)
                · rw [if_pos q, q, pw_up_other (by omega), pw_up_self]
                  exact ⟨rfl, oc.2⟩
                · rw [if_neg q, pw_up_other (by omega), pw_up_other (by omega), w3 _ _ (by omega)]
                  exact P3 k' g0 (by omega)
              · rw [w4 _ _ (by omega) (by omega), w3 _ _ (by omega)]
                exact PTb.congr (fun q a b k => by rw [w4 q k (by omega) (by omega), w3 _ _ (by omega)])
              · rw [w4 _ _ (by omega) (by omega), w3 _ _ (by omega)]; exact PU
              · rw [w4 _ _ (by omega) (by omega), w3 _ _ (by omega)]; dsimp only; omega)
            · omega
          · omega
        · rw [if_neg hs]
          rw [bi_neg hs, if_neg hs] at CA
          refine PW.iload (pc := 42) dX6_readInstruction_42 rfl ?_
          refine PW.iload_n (pc := 44) dX6_readInstruction_44 rfl ?_
          refine PW.icmp_ge (pc := 45) (tgt := 98) dX6_readInstruction_45 (by decide) (by first | omega | exact rg_of _) (by first | omega | exact rg_of _) (fun c_45 => ?_) (fun c_45 => ?_)
          · refine PW.aload_n (pc := 98) dX6_readInstruction_98 rfl ?_
            refine PW.bipush (pc := 99) dX6_readInstruction_99 (by decide) ?_
            refine PW.invV0x (pc := 101) dX6_readInstruction_101 mv_X6_59 (CA) (by first | assumption | rfl) rfl rfl (Nat.le_of_ble_eq_true rfl) ?_
            refine PW.if_ne (pc := 104) (tgt := 109) dX6_readInstruction_104 (by decide) (by first | omega | exact rg_of _) (fun c_104 => ?_) (fun c_104 => ?_)
            · omega
            · refine PW.iconst (pc := 107) dX6_readInstruction_107 ?_
              exact PW.zreturn (pc := 108) dX6_readInstruction_108 rfl (by first | exact Or.inl rfl | exact Or.inr rfl | omega) (⟨rfl, rfl, pw_up_self _ _ _ _, fun q z g1 g2 => z1 _ _ _ g2, rfl, bs _⟩)
          · omega
      | succ N ih =>
        intro i fg p' acc o6 hfg hi ac0 ac1 q0 q1 he hpp
        have hfr : 0 ≤ fg ∧ fg ≤ 3 := by rw [hfg]; split <;> omega
        have CP := c_X6_peek (sc := sc) (Γ := Γ) (R := R) (d + 1) (I := pw_up I r 2 p') (n := n) (p := p') A (er1 _) (pw_up_self _ _ _ _) (by rw [etx]; exact hx) q0 q1
        rw [etx, pw_up_up] at CP
        have htk := tok_rg hx q0 q1
        have hsk := skp_ge (I (r + 1)) q1
        by_cases hg : 48 ≤ tok (I (r + 1)) n p' ∧ tok (I (r + 1)) n p' ≤ 51
        · have hlt := tok_lt (tx := I (r + 1)) (n := n) (p := p') (by omega)
          rw [pF, if_pos hg] at he
          have ha16 : acc < 16 := by
            have : (4 : Int) ^ i ≤ 4 ^ 2 := by
              match i, (show i ≤ 2 by omega) with
              | 0, _ => decide
              | 1, _ => decide
              | 2, _ => decide
            have e16 : (4 : Int) ^ 2 = 16 := by decide
            omega
          have eo := or_dig ac0 ha16 (b := tok (I (r + 1)) n p' - 48) (by omega) (by omega)
          have e4 : (4 : Int) ^ (i + 1) = 4 ^ i * 4 := Int.pow_succ 4 i
          refine PW.iload (pc := 42) dX6_readInstruction_42 rfl ?_
          refine PW.iload_n (pc := 44) dX6_readInstruction_44 rfl ?_
          refine PW.icmp_ge (pc := 45) (tgt := 98) dX6_readInstruction_45 (by decide) (by first | omega | exact rg_of _) (by first | omega | exact rg_of _) (fun c_45 => ?_) (fun c_45 => ?_)
          · omega
          · refine PW.aload_n (pc := 48) dX6_readInstruction_48 rfl ?_
            refine PW.invV0x (pc := 49) dX6_readInstruction_49 mv_X6_27 (CP) (by first | assumption | rfl) rfl rfl (Nat.le_of_ble_eq_true rfl) ?_
            refine PW.istore (pc := 52) dX6_readInstruction_52 (by decide) ?_
            refine PW.iload (pc := 54) dX6_readInstruction_54 rfl ?_
            refine PW.bipush (pc := 56) dX6_readInstruction_56 (by decide) ?_
            refine PW.icmp_lt (pc := 58) (tgt := 68) dX6_readInstruction_58 (by decide) (by first | omega | exact rg_of _) (by first | omega | exact rg_of _) (fun c_58 => ?_) (fun c_58 => ?_)
            · omega
            · refine PW.iload (pc := 61) dX6_readInstruction_61 rfl ?_
              refine PW.bipush (pc := 63) dX6_readInstruction_63 (by decide) ?_
              refine PW.icmp_le (pc := 65) (tgt := 70) dX6_readInstruction_65 (by decide) (by first | omega | exact rg_of _) (by first | omega | exact rg_of _) (fun c_65 => ?_) (fun c_65 => ?_)
              · refine PW.aload_n (pc := 70) dX6_readInstruction_70 rfl ?_
                refine PW.dup (pc := 71) dX6_readInstruction_71 ?_
                refine PW.geti (pc := 72) dX6_readInstruction_72 fl_X6_24 (by decide) (by first | assumption | rfl) ?_
                rw [pw_up_self]
                refine PW.iconst (pc := 75) dX6_readInstruction_75 ?_
                refine PW.iadd (pc := 76) dX6_readInstruction_76 ?_
                refine PW.puti (pc := 77) dX6_readInstruction_77 fl_X6_24 (by first | assumption | rfl) ?_
                rw [pw_up_up]
                refine PW.iload (pc := 80) dX6_readInstruction_80 rfl ?_
                refine PW.iconst (pc := 82) dX6_readInstruction_82 ?_
                refine PW.ishl (pc := 83) dX6_readInstruction_83 ?_
                refine PW.iload (pc := 84) dX6_readInstruction_84 rfl ?_
                refine PW.bipush (pc := 86) dX6_readInstruction_86 (by decide) ?_
                refine PW.isub (pc := 88) dX6_readInstruction_88 ?_
                refine PW.ior (pc := 89) dX6_readInstruction_89 ?_
                rw [eo]
                refine PW.istore (pc := 90) dX6_readInstruction_90 (by decide) ?_
                refine PW.iinc (pc := 92) dX6_readInstruction_92 rfl (by decide) ?_
                refine PW.goto (pc := 95) (tgt := 42) dX6_readInstruction_95 (by decide) ?_
                exact ih (i + 1) fg _ _ _ hfg (by omega) (by omega) (by rw [e4]; omega) (by omega) (by omega) he (by omega)
              · omega
        · rw [pF, if_neg hg] at he
          rw [← he]
          dsimp only
          refine PW.iload (pc := 42) dX6_readInstruction_42 rfl ?_
          refine PW.iload_n (pc := 44) dX6_readInstruction_44 rfl ?_
          refine PW.icmp_ge (pc := 45) (tgt := 98) dX6_readInstruction_45 (by decide) (by first | omega | exact rg_of _) (by first | omega | exact rg_of _) (fun c_45 => ?_) (fun c_45 => ?_)
          · omega
          · refine PW.aload_n (pc := 48) dX6_readInstruction_48 rfl ?_
            refine PW.invV0x (pc := 49) dX6_readInstruction_49 mv_X6_27 (CP) (by first | assumption | rfl) rfl rfl (Nat.le_of_ble_eq_true rfl) ?_
            refine PW.istore (pc := 52) dX6_readInstruction_52 (by decide) ?_
            refine PW.iload (pc := 54) dX6_readInstruction_54 rfl ?_
            refine PW.bipush (pc := 56) dX6_readInstruction_56 (by decide) ?_
            refine PW.icmp_lt (pc := 58) (tgt := 68) dX6_readInstruction_58 (by decide) (by first | omega | exact rg_of _) (by first | omega | exact rg_of _) (fun c_58 => ?_) (fun c_58 => ?_)
            · refine PW.iconst (pc := 68) dX6_readInstruction_68 ?_
              exact PW.zreturn (pc := 69) dX6_readInstruction_69 rfl (by first | exact Or.inl rfl | exact Or.inr rfl | omega) (⟨rfl, rfl, pw_up_self _ _ _ _, fun q z g1 g2 => z1 _ _ _ g2, rfl, bs _⟩)
            · refine PW.iload (pc := 61) dX6_readInstruction_61 rfl ?_
              refine PW.bipush (pc := 63) dX6_readInstruction_63 (by decide) ?_
              refine PW.icmp_le (pc := 65) (tgt := 70) dX6_readInstruction_65 (by decide) (by first | omega | exact rg_of _) (by first | omega | exact rg_of _) (fun c_65 => ?_) (fun c_65 => ?_)
              · omega
              · refine PW.iconst (pc := 68) dX6_readInstruction_68 ?_
                exact PW.zreturn (pc := 69) dX6_readInstruction_69 rfl (by first | exact Or.inl rfl | exact Or.inr rfl | omega) (⟨rfl, rfl, pw_up_self _ _ _ _, fun q z g1 g2 => z1 _ _ _ g2, rfl, bs _⟩)
    by_cases hk0 : (k : Int) = 0
    · refine PW.aload_n (pc := 0) dX6_readInstruction_0 rfl ?_
      refine PW.getr (pc := 1) dX6_readInstruction_1 fl_X6_71 (by first | assumption | rfl) (by first | assumption | rfl) ?_
      refine PW.geti (pc := 4) dX6_readInstruction_4 fl_X6_75 (by decide) (by first | assumption | rfl) ?_
      rw [P1]
      refine PW.bipush (pc := 7) dX6_readInstruction_7 (by decide) ?_
      refine PW.icmp_lt (pc := 9) (tgt := 14) dX6_readInstruction_9 (by decide) (by first | omega | exact rg_of _) (by first | omega | exact rg_of _) (fun c_9 => ?_) (fun c_9 => ?_)
      · refine PW.aload_n (pc := 14) dX6_readInstruction_14 rfl ?_
        refine PW.dup (pc := 15) dX6_readInstruction_15 ?_
        refine PW.geti (pc := 16) dX6_readInstruction_16 fl_X6_24 (by decide) (by first | assumption | rfl) ?_
        rw [hp]
        refine PW.iconst (pc := 19) dX6_readInstruction_19 ?_
        refine PW.iadd (pc := 20) dX6_readInstruction_20 ?_
        refine PW.puti (pc := 21) dX6_readInstruction_21 fl_X6_24 (by first | assumption | rfl) ?_
        refine PW.iload_n (pc := 24) dX6_readInstruction_24 rfl ?_
        refine PW.if_ne (pc := 25) (tgt := 32) dX6_readInstruction_25 (by decide) (by first | omega | exact rg_of _) (fun c_25 => ?_) (fun c_25 => ?_)
        · omega
        · refine PW.iconst (pc := 28) dX6_readInstruction_28 ?_
          refine PW.goto (pc := 29) (tgt := 35) dX6_readInstruction_29 (by decide) ?_
          refine PW.istore_n (pc := 35) dX6_readInstruction_35 (by decide) ?_
          refine PW.iconst (pc := 36) dX6_readInstruction_36 ?_
          refine PW.istore (pc := 37) dX6_readInstruction_37 (by decide) ?_
          refine PW.iconst (pc := 39) dX6_readInstruction_39 ?_
          refine PW.istore (pc := 40) dX6_readInstruction_40 (by decide) ?_
          exact loop (if k = 0 then 0 else k + 1) 0 _ _ _ _ (by rw [if_pos (by omega)]) (by rw [if_pos (by omega)]; rfl) (by omega) (by decide) (by omega) (by omega) rfl (by omega)
      · omega
    · refine PW.aload_n (pc := 0) dX6_readInstruction_0 rfl ?_
      refine PW.getr (pc := 1) dX6_readInstruction_1 fl_X6_71 (by first | assumption | rfl) (by first | assumption | rfl) ?_
      refine PW.geti (pc := 4) dX6_readInstruction_4 fl_X6_75 (by decide) (by first | assumption | rfl) ?_
      rw [P1]
      refine PW.bipush (pc := 7) dX6_readInstruction_7 (by decide) ?_
      refine PW.icmp_lt (pc := 9) (tgt := 14) dX6_readInstruction_9 (by decide) (by first | omega | exact rg_of _) (by first | omega | exact rg_of _) (fun c_9 => ?_) (fun c_9 => ?_)
      · refine PW.aload_n (pc := 14) dX6_readInstruction_14 rfl ?_
        refine PW.dup (pc := 15) dX6_readInstruction_15 ?_
        refine PW.geti (pc := 16) dX6_readInstruction_16 fl_X6_24 (by decide) (by first | assumption | rfl) ?_
        rw [hp]
        refine PW.iconst (pc := 19) dX6_readInstruction_19 ?_
        refine PW.iadd (pc := 20) dX6_readInstruction_20 ?_
        refine PW.puti (pc := 21) dX6_readInstruction_21 fl_X6_24 (by first | assumption | rfl) ?_
        refine PW.iload_n (pc := 24) dX6_readInstruction_24 rfl ?_
        refine PW.if_ne (pc := 25) (tgt := 32) dX6_readInstruction_25 (by decide) (by first | omega | exact rg_of _) (fun c_25 => ?_) (fun c_25 => ?_)
        · refine PW.iload_n (pc := 32) dX6_readInstruction_32 rfl ?_
          refine PW.iconst (pc := 33) dX6_readInstruction_33 ?_
          refine PW.iadd (pc := 34) dX6_readInstruction_34 ?_
          refine PW.istore_n (pc := 35) dX6_readInstruction_35 (by decide) ?_
          refine PW.iconst (pc := 36) dX6_readInstruction_36 ?_
          refine PW.istore (pc := 37) dX6_readInstruction_37 (by decide) ?_
          refine PW.iconst (pc := 39) dX6_readInstruction_39 ?_
          refine PW.istore (pc := 40) dX6_readInstruction_40 (by decide) ?_
          exact loop (if k = 0 then 0 else k + 1) 0 _ _ _ _ (by rw [if_neg (by omega)]) (by rw [if_neg (by omega)]; omega) (by omega) (by decide) (by omega) (by omega) rfl (by omega)
        · omega
      · omega
set_option maxRecDepth 100000 in
set_option maxHeartbeats 1000000 in
theorem Tab.lasting {I : PIm} {h : Nat} {z v : Int} {tb : Int → Tm} (T : Tab I h z tb) : Tab (pw_up I h 6 v) h z tb := by
  obtain ⟨T0, T1, T2⟩ := T
  refine ⟨T0, fun i h0 h1 => ?_, T2⟩
  have r := T1 i h0 h1
  unfold TabE at r ⊢
  rw [pw_up_other (by omega), pw_up_other (by omega), pw_up_other (by omega), pw_up_other (by omega), pw_up_other (by omega)]
  exact r
set_option maxRecDepth 100000 in
set_option maxHeartbeats 1000000 in
theorem c_X6_readItem (d : Nat) {I : PIm} {r t : Nat} {n p : Int} {σ : PS} {tb : Int → Tm} (A : ReadAt Γ R r) (T : ToldAt Γ R t) (hn : I r 1 = n) (hp : I r 2 = p) (hx : TxOK (I (r + 1)) n) (h0 : 0 ≤ p) (h1 : p ≤ n) (PI : PInv I t σ tb p) (hdj : r + 1 < t) :
    PC sc mX6_readItem (d + 9) 0 0 [.inr (some r), .inr (some t)] Γ I R (IPp Γ R I r t (pItem (I (r + 1)) n σ p)) := by
  have a0 := A.1
  obtain ⟨PF, PP, PTb, PU, PZ⟩ := id PI
  have htk := tok_rg hx h0 h1
  have hsk := skp_ge (I (r + 1)) h1
  have z1 : ∀ v q z, ¬ (q = r ∧ z = 2) → pw_up I r 2 v q z = I q z := fun v q z hq => pw_up_other hq
  have etx : ∀ v, pw_up I r 2 v (r + 1) = I (r + 1) := fun v => funext fun z => z1 _ _ _ (by omega)
  generalize hq0 : skp (I (r + 1)) n p = q0 at *
  have PI2 : PInv (pw_up I r 2 q0) t σ tb q0 := ⟨PF.grow (fun q a k => z1 _ _ _ (by omega)) (by rw [z1 _ _ _ (by omega)]; omega) (fun _ _ => rfl), ⟨by rw [z1 _ _ _ (by omega)]; exact PP.1, PP.2.1, fun k g0 g1 => by rw [z1 _ _ _ (by omega)]; exact PP.2.2 k g0 g1⟩, by rw [z1 _ _ _ (by omega)]; exact PTb.congr (fun q a b k => z1 _ _ _ (by omega)), by rw [z1 _ _ _ (by omega)]; exact PU, by rw [z1 _ _ _ (by omega)]; omega⟩
  have eres : ∀ res : Option PS × Int, ∀ v Γ' I' R', IPp Γ R (pw_up I r 2 q0) r t res v Γ' I' R' → IPp Γ R I r t res v Γ' I' R' := by
    rintro res v Γ' I' R' ⟨k1, k2, k3, k4, k5⟩
    exact ⟨k1, k2, k3, fun q z g1 g2 => by rw [k4 q z g1 g2, z1 _ _ _ g2], k5⟩
  have CP := c_X6_peek (sc := sc) (Γ := Γ) (R := R) (d + 8) (I := I) (n := n) (p := p) A hn hp hx h0 h1
  rw [hq0] at CP
  have z01 : ∀ {res : Option PS × Int} {v : Option PV} {Γ' : List PTy} {I' : PIm} {R' : PRm}, IPp Γ R (pw_up I r 2 q0) r t res v Γ' I' R' → ∃ z, v = some (.inl z) ∧ (z = 0 ∨ z = 1) := by
    rintro res v Γ' I' R' ⟨-, -, -, -, k5⟩
    rcases hres : res.1 with _ | σ'
    · rw [hres] at k5
      exact ⟨0, k5.1, Or.inl rfl⟩
    · rw [hres] at k5
      exact ⟨1, k5.1, Or.inr rfl⟩
  refine PC.ofPW (by decide) (Nat.le_of_ble_eq_true rfl) ?_
  unfold pItem
  rw [hq0]
  by_cases c1 : tok (I (r + 1)) n p = 61
  · have hlt := tok_lt (tx := I (r + 1)) (n := n) (p := p) (by omega)
    rw [hq0] at hlt
    have CF := c_X6_readFact (sc := sc) (Γ := Γ) (R := R) d (I := pw_up I r 2 q0) (n := n) (p := q0) (e := 1) A T (by rw [z1 _ _ _ (by omega)]; exact hn) (pw_up_self _ _ _ _) (by rw [etx]; exact hx) (by omega) hlt (Or.inr rfl) PI2 hdj
    rw [etx] at CF
    rw [if_pos (Or.inl c1), if_pos c1]
    refine PW.aload_n (pc := 0) dX6_readItem_0 rfl ?_
    refine PW.invV0x (pc := 1) dX6_readItem_1 mv_X6_27 (CP) (by first | assumption | rfl) rfl rfl (Nat.le_of_ble_eq_true rfl) ?_
    refine PW.lookup (pc := 4) (tgt := 56) dX6_readItem_4 (by decide) (by omega) (by rw [c1]) (by decide) ?_
    refine PW.aload_n (pc := 56) dX6_readItem_56 rfl ?_
    refine PW.aload_n (pc := 57) dX6_readItem_57 rfl ?_
    refine PW.iconst (pc := 58) dX6_readItem_58 ?_
    refine PW.invV0 (pc := 59) dX6_readItem_59 mv_X6_44 (CF) (by first | assumption | rfl) rfl rfl (Nat.le_of_ble_eq_true rfl) ?_
    (intro v Γ' I' R' hpo; obtain ⟨z, rfl, hz⟩ := z01 hpo)
    exact PW.zreturn (pc := 62) dX6_readItem_62 rfl hz (eres _ _ _ _ _ hpo)
  · by_cases c2 : tok (I (r + 1)) n p = 33
    · have hlt := tok_lt (tx := I (r + 1)) (n := n) (p := p) (by omega)
      rw [hq0] at hlt
      have CF := c_X6_readFact (sc := sc) (Γ := Γ) (R := R) d (I := pw_up I r 2 q0) (n := n) (p := q0) (e := 0) A T (by rw [z1 _ _ _ (by omega)]; exact hn) (pw_up_self _ _ _ _) (by rw [etx]; exact hx) (by omega) hlt (Or.inl rfl) PI2 hdj
      rw [etx] at CF
      rw [if_pos (Or.inr c2), if_neg c1]
      refine PW.aload_n (pc := 0) dX6_readItem_0 rfl ?_
      refine PW.invV0x (pc := 1) dX6_readItem_1 mv_X6_27 (CP) (by first | assumption | rfl) rfl rfl (Nat.le_of_ble_eq_true rfl) ?_
      refine PW.lookup (pc := 4) (tgt := 63) dX6_readItem_4 (by decide) (by omega) (by rw [c2]) (by decide) ?_
      refine PW.aload_n (pc := 63) dX6_readItem_63 rfl ?_
      refine PW.aload_n (pc := 64) dX6_readItem_64 rfl ?_
      refine PW.iconst (pc := 65) dX6_readItem_65 ?_
      refine PW.invV0 (pc := 66) dX6_readItem_66 mv_X6_44 (CF) (by first | assumption | rfl) rfl rfl (Nat.le_of_ble_eq_true rfl) ?_
      (intro v Γ' I' R' hpo; obtain ⟨z, rfl, hz⟩ := z01 hpo)
      exact PW.zreturn (pc := 69) dX6_readItem_69 rfl hz (eres _ _ _ _ _ hpo)
    · rw [if_neg (by omega)]
      have CI : tok (I (r + 1)) n p ≠ -1 → ∀ k : Nat, k ≤ 2 → PC sc mX6_readInstruction (d + 8) 0 0 [.inr (some r), .inr (some t), .inl (k : Int)] Γ (pw_up I r 2 q0) R (IPp Γ R (pw_up I r 2 q0) r t (if 6 ≤ σ.2.2 then (none, q0) else pIns (I (r + 1)) n σ k (q0 + 1))) := by
        intro hne k hk
        have hlt := tok_lt (tx := I (r + 1)) (n := n) (p := p) hne
        rw [hq0] at hlt
        have := c_X6_readInstruction (sc := sc) (Γ := Γ) (R := R) (d + 6) (I := pw_up I r 2 q0) (n := n) (p := q0) A T (by rw [z1 _ _ _ (by omega)]; exact hn) (pw_up_self _ _ _ _) (by rw [etx]; exact hx) (by omega) hlt hk PI2 hdj
        rwa [etx] at this
      by_cases c3 : tok (I (r + 1)) n p = 110
      · have CI0 := CI (by omega) 0 (by omega)
        rw [if_pos c3]
        refine PW.aload_n (pc := 0) dX6_readItem_0 rfl ?_
        refine PW.invV0x (pc := 1) dX6_readItem_1 mv_X6_27 (CP) (by first | assumption | rfl) rfl rfl (Nat.le_of_ble_eq_true rfl) ?_
        refine PW.lookup (pc := 4) (tgt := 70) dX6_readItem_4 (by decide) (by omega) (by rw [c3]) (by decide) ?_
        refine PW.aload_n (pc := 70) dX6_readItem_70 rfl ?_
        refine PW.aload_n (pc := 71) dX6_readItem_71 rfl ?_
        refine PW.iconst (pc := 72) dX6_readItem_72 ?_
        refine PW.invV0 (pc := 73) dX6_readItem_73 mv_X6_48 (CI0) (by first | assumption | rfl) rfl rfl (Nat.le_of_ble_eq_true rfl) ?_
        (intro v Γ' I' R' hpo; obtain ⟨z, rfl, hz⟩ := z01 hpo)
        exact PW.zreturn (pc := 76) dX6_readItem_76 rfl hz (eres _ _ _ _ _ hpo)
      · by_cases c4 : tok (I (r + 1)) n p = 117
        · have CI0 := CI (by omega) 1 (by omega)
          rw [if_neg c3, if_pos c4]
          refine PW.aload_n (pc := 0) dX6_readItem_0 rfl ?_
          refine PW.invV0x (pc := 1) dX6_readItem_1 mv_X6_27 (CP) (by first | assumption | rfl) rfl rfl (Nat.le_of_ble_eq_true rfl) ?_
          refine PW.lookup (pc := 4) (tgt := 77) dX6_readItem_4 (by decide) (by omega) (by rw [c4]) (by decide) ?_
          refine PW.aload_n (pc := 77) dX6_readItem_77 rfl ?_
          refine PW.aload_n (pc := 78) dX6_readItem_78 rfl ?_
          refine PW.iconst (pc := 79) dX6_readItem_79 ?_
          refine PW.invV0 (pc := 80) dX6_readItem_80 mv_X6_48 (CI0) (by first | assumption | rfl) rfl rfl (Nat.le_of_ble_eq_true rfl) ?_
          (intro v Γ' I' R' hpo; obtain ⟨z, rfl, hz⟩ := z01 hpo)
          exact PW.zreturn (pc := 83) dX6_readItem_83 rfl hz (eres _ _ _ _ _ hpo)
        · by_cases c5 : tok (I (r + 1)) n p = 111
          · have CI0 := CI (by omega) 2 (by omega)
            rw [if_neg c3, if_neg c4, if_pos c5]
            refine PW.aload_n (pc := 0) dX6_readItem_0 rfl ?_
            refine PW.invV0x (pc := 1) dX6_readItem_1 mv_X6_27 (CP) (by first | assumption | rfl) rfl rfl (Nat.le_of_ble_eq_true rfl) ?_
            refine PW.lookup (pc := 4) (tgt := 84) dX6_readItem_4 (by decide) (by omega) (by rw [c5]) (by decide) ?_
            refine PW.aload_n (pc := 84) dX6_readItem_84 rfl ?_
            refine PW.aload_n (pc := 85) dX6_readItem_85 rfl ?_
            refine PW.iconst (pc := 86) dX6_readItem_86 ?_
            refine PW.invV0 (pc := 87) dX6_readItem_87 mv_X6_48 (CI0) (by first | assumption | rfl) rfl rfl (Nat.le_of_ble_eq_true rfl) ?_
            (intro v Γ' I' R' hpo; obtain ⟨z, rfl, hz⟩ := z01 hpo)
            exact PW.zreturn (pc := 90) dX6_readItem_90 rfl hz (eres _ _ _ _ _ hpo)
          · rw [if_neg c3, if_neg c4, if_neg c5]
            refine PW.aload_n (pc := 0) dX6_readItem_0 rfl ?_
            refine PW.invV0x (pc := 1) dX6_readItem_1 mv_X6_27 (CP) (by first | assumption | rfl) rfl rfl (Nat.le_of_ble_eq_true rfl) ?_
            refine PW.lookup (pc := 4) (tgt := 91) dX6_readItem_4 (by decide) (by omega) (off := 87) (by simp [Op.lookupswitch.offset, Ne.symm c1, Ne.symm c2, Ne.symm c3, Ne.symm c4, Ne.symm c5]) (by decide) ?_
            refine PW.iconst (pc := 91) dX6_readItem_91 ?_
            exact PW.zreturn (pc := 92) dX6_readItem_92 rfl (by first | exact Or.inl rfl | exact Or.inr rfl | omega) (⟨rfl, rfl, pw_up_self _ _ _ _, fun q z g1 g2 => z1 _ _ _ g2, rfl, PTb.base.congr (fun q a b k => z1 _ _ _ (by omega))⟩)
set_option maxRecDepth 100000 in
set_option maxHeartbeats 1000000 in
theorem pFact_rg {tx : Int → Int} {n : Int} {σ : PS} {e p : Int} (hp : p ≤ n) : (p ≤ (pFact tx n σ e p).2 ∧ (pFact tx n σ e p).2 ≤ n) ∧ ∀ σ', (pFact tx n σ e p).1 = some σ' → σ'.1.1 + σ'.2.2 = σ.1.1 + σ.2.2 + 1 := by
  unfold pFact
  have r1 := pT_rg (tx := tx) (n := n) 4 p hp
  rcases h1 : pT tx n 4 p with ⟨_ | a, p1⟩
  · rw [h1] at r1
    dsimp only at r1 ⊢
    exact ⟨by omega, fun _ q => by simp at q⟩
  · rw [h1] at r1
    dsimp only at r1 ⊢
    have r2 := pT_rg (tx := tx) (n := n) 4 p1 (by omega)
    rcases h2 : pT tx n 4 p1 with ⟨_ | b, p2⟩
    · rw [h2] at r2
      dsimp only at r2 ⊢
      exact ⟨by omega, fun _ q => by simp at q⟩
    · rw [h2] at r2
      dsimp only at r2 ⊢
      have hs := skp_ge tx (n := n) (p := p2) (by omega)
      by_cases h3 : tok tx n p2 = 59
      · have hl := tok_lt (tx := tx) (n := n) (p := p2) (by omega)
        rw [if_pos h3]
        dsimp only
        refine ⟨by omega, fun σ' q => ?_⟩
        have : (fpush σ.1 e a b, σ.2) = σ' := by simpa using q
        subst this
        show σ.1.1 + 1 + σ.2.2 = _
        omega
      · rw [if_neg h3]
        dsimp only
        exact ⟨by omega, fun _ q => by simp at q⟩
set_option maxRecDepth 100000 in
set_option maxHeartbeats 1000000 in
theorem pIns_rg {tx : Int → Int} {n : Int} {σ : PS} {k : Nat} {p : Int} (hp : p ≤ n) : (p ≤ (pIns tx n σ k p).2 ∧ (pIns tx n σ k p).2 ≤ n) ∧ ∀ σ', (pIns tx n σ k p).1 = some σ' → σ'.1.1 + σ'.2.2 = σ.1.1 + σ.2.2 + 1 := by
  unfold pIns
  have r1 := pF_rg (tx := tx) (n := n) (if k = 0 then 0 else k + 1) p 0 (by omega) hp
  rcases h1 : pF tx n (if k = 0 then 0 else k + 1) p 0 with ⟨_ | v, p1⟩
  · rw [h1] at r1
    dsimp only at r1 ⊢
    exact ⟨by omega, fun _ q => by simp at q⟩
  · rw [h1] at r1
    dsimp only at r1 ⊢
    have hs := skp_ge tx (n := n) (p := p1) (by omega)
    by_cases h3 : tok tx n p1 = 59
    · have hl := tok_lt (tx := tx) (n := n) (p := p1) (by omega)
      rw [if_pos h3]
      dsimp only
      refine ⟨by omega, fun σ' q => ?_⟩
      have : (σ.1, ppush σ.2.1 σ.2.2 (64 * (k : Int) + v * (if k = 1 then 4 else 1)), σ.2.2 + 1) = σ' := by simpa using q
      subst this
      show σ.1.1 + (σ.2.2 + 1) = _
      omega
    · rw [if_neg h3]
      dsimp only
      exact ⟨by omega, fun _ q => by simp at q⟩
set_option maxRecDepth 100000 in
set_option maxHeartbeats 1000000 in
theorem pItem_rg {tx : Int → Int} {n : Int} {σ : PS} {p : Int} (hp : p ≤ n) : (p ≤ (pItem tx n σ p).2 ∧ (pItem tx n σ p).2 ≤ n) ∧ ∀ σ', (pItem tx n σ p).1 = some σ' → σ'.1.1 + σ'.2.2 = σ.1.1 + σ.2.2 + 1 := by
  have hs := skp_ge tx hp
  have no : ((p ≤ ((none, skp tx n p) : Option PS × Int).2 ∧ ((none, skp tx n p) : Option PS × Int).2 ≤ n) ∧ ∀ σ' : PS, ((none, skp tx n p) : Option PS × Int).1 = some σ' → σ'.1.1 + σ'.2.2 = σ.1.1 + σ.2.2 + 1) := ⟨by dsimp only; omega, fun _ q => by simp at q⟩
  have lt : ∀ c, tok tx n p = c → c ≠ -1 → skp tx n p + 1 ≤ n := fun c h h' => by have := tok_lt (tx := tx) (n := n) (p := p) (by omega); omega
  have ins : ∀ k, skp tx n p + 1 ≤ n → (p ≤ (pIns tx n σ k (skp tx n p + 1)).2 ∧ (pIns tx n σ k (skp tx n p + 1)).2 ≤ n) ∧ ∀ σ', (pIns tx n σ k (skp tx n p + 1)).1 = some σ' → σ'.1.1 + σ'.2.2 = σ.1.1 + σ.2.2 + 1 := fun k hl => by
    have := pIns_rg (tx := tx) (σ := σ) (k := k) hl
    exact ⟨by omega, this.2⟩
  unfold pItem
  split
  next h =>
    split
    · exact no
    · have := pFact_rg (tx := tx) (n := n) (σ := σ) (e := if tok tx n p = 61 then 1 else 0) (p := skp tx n p + 1) (by rcases h with h | h; exact lt _ h (by decide); exact lt _ h (by decide))
      exact ⟨by omega, this.2⟩
  · split
    next h =>
      split
      · exact no
      · exact ins 0 (lt _ h (by decide))
    · split
      next h =>
        split
        · exact no
        · exact ins 1 (lt _ h (by decide))
      · split
        next h =>
          split
          · exact no
          · exact ins 2 (lt _ h (by decide))
        · exact no
/-- behind a reading of a text -/
def RAp (Γ : List PTy) (R : PRm) (I0 : PIm) (r t : Nat) (res : Option PS × Int) : PPost := fun v Γ' I' R' => Γ' = Γ ∧ R' = R ∧ (∀ q z, ¬ (t ≤ q ∧ q ≤ t + 11) → ¬ (q = r ∧ z = 2) → I' q z = I0 q z) ∧ (match res.1 with
  | some σ => v = some (.inl ((σ.1.1 : Int) + (σ.2.2 : Int))) ∧ I' (t + 1) 6 = I' (t + 1) 5 ∧ ∃ tb', PInv I' t σ tb' 100
  | none => v = some (.inl (-10 - res.2)) ∧ (0 ≤ res.2 ∧ res.2 ≤ 100) ∧ Base I' (t + 1))
set_option maxRecDepth 100000 in
set_option maxHeartbeats 1000000 in
theorem c_X6_readAll (d : Nat) {I : PIm} {r t : Nat} {n : Int} (A : ReadAt Γ R r) (T : ToldAt Γ R t) (hn : I r 1 = n) (hx : TxOK (I (r + 1)) n) (B : Base I (t + 1)) (hdj : r + 1 < t) :
    PC sc mX6_readAll (d + 10) 0 0 [.inr (some r), .inr (some t)] Γ I R (RAp Γ R I r t (pAll (I (r + 1)) n 100 pstart 0)) := by
  have a0 := A.1
  obtain ⟨t0, t1, t2, t3, t4, t5, t6, t7, t8, t9, t10⟩ := id T
  have t9' := t9.1
  have hn100 := hx.1
  have loop : ∀ (N : Nat) (it p : Int) (I1 : PIm) (σ : PS) (tb : Int → Tm), it + N = 100 → it = (σ.1.1 : Int) + (σ.2.2 : Int) → 0 ≤ p → p ≤ n → I1 r 2 = p → (∀ q z, ¬ (t ≤ q ∧ q ≤ t + 11) → ¬ (q = r ∧ z = 2) → I1 q z = I q z) → PInv I1 t σ tb p → pAll (I (r + 1)) n N σ p = pAll (I (r + 1)) n 100 pstart 0 → PW sc mX6_readAll (d + 10) 0 0 (RAp Γ R I r t (pAll (I (r + 1)) n 100 pstart 0)) 11 [some (.inr (some r)), some (.inr (some t)), some (.inl it)] [] Γ I1 R := by
    intro N
    induction N with
    | zero =>
      intro it p I1 σ tb h1 h2 p0 p1 hp fr PI he
      have := PI.1.2.1
      have := PI.2.1.2.1
      omega
    | succ N ih =>
      intro it p I1 σ tb h1 h2 p0 p1 hp fr PI he
      have hf6 := PI.1.2.1
      have hp6 := PI.2.1.2.1
      have etx : I1 (r + 1) = I (r + 1) := funext fun z => fr _ _ (by omega) (by omega)
      have en : I1 r 1 = n := by rw [fr r 1 (by omega) (by omega)]; exact hn
      have CP := c_X6_peek (sc := sc) (Γ := Γ) (R := R) (d + 9) (I := I1) (n := n) (p := p) A en hp (by rw [etx]; exact hx) p0 p1
      rw [etx] at CP
      have htk := tok_rg hx p0 p1
      have hsk := skp_ge (I (r + 1)) p1
      have z1 : ∀ v q z, ¬ (q = r ∧ z = 2) → pw_up I1 r 2 v q z = I1 q z := fun v q z hq => pw_up_other hq
      obtain ⟨PF, PP, PTb, PU, PZ⟩ := id PI
      have PI2 : ∀ v, p ≤ v → PInv (pw_up I1 r 2 v) t σ tb v := fun v hv => ⟨PF.grow (fun q a k => z1 _ _ _ (by omega)) (by rw [z1 _ _ _ (by omega)]; omega) (fun _ _ => rfl), ⟨by rw [z1 _ _ _ (by omega)]; exact PP.1, PP.2.1, fun k g0 g1 => by rw [z1 _ _ _ (by omega)]; exact PP.2.2 k g0 g1⟩, by rw [z1 _ _ _ (by omega)]; exact PTb.congr (fun q a b k => z1 _ _ _ (by omega)), by rw [z1 _ _ _ (by omega)]; exact PU, by rw [z1 _ _ _ (by omega)]; omega⟩
      by_cases hE : tok (I (r + 1)) n p = -1
      · rw [pAll, if_pos hE] at he
        rw [← he]
        have y15 : pw_up I1 r 2 (skp (I (r + 1)) n p) (t + 1) 5 = I1 (t + 1) 5 := z1 _ _ _ (by omega)
        refine PW.iload_n (pc := 11) dX6_readAll_11 rfl ?_
        refine PW.bipush (pc := 12) dX6_readAll_12 (by decide) ?_
        refine PW.icmp_ge (pc := 14) (tgt := 47) dX6_readAll_14 (by decide) (by first | omega | exact rg_of _) (by first | omega | exact rg_of _) (fun c_14 => ?_) (fun c_14 => ?_)
        · omega
        · refine PW.aload_n (pc := 17) dX6_readAll_17 rfl ?_
          refine PW.invV0x (pc := 18) dX6_readAll_18 mv_X6_27 (CP) (by first | assumption | rfl) rfl rfl (Nat.le_of_ble_eq_true rfl) ?_
          refine PW.iconst (pc := 21) dX6_readAll_21 ?_
          refine PW.icmp_eq (pc := 22) (tgt := 47) dX6_readAll_22 (by decide) (by first | omega | exact rg_of _) (by first | omega | exact rg_of _) (fun c_22 => ?_) (fun c_22 => ?_)
          · refine PW.aload_n (pc := 47) dX6_readAll_47 rfl ?_
            refine PW.getr (pc := 48) dX6_readAll_48 fl_X6_35 (by first | assumption | rfl) (by first | assumption | rfl) ?_
            refine PW.invV0x (pc := 51) dX6_readAll_51 mv_X6_39 (c_X8_makeLasting _ t9') (by first | assumption | rfl) rfl rfl (Nat.le_of_ble_eq_true rfl) ?_
            refine PW.iload_n (pc := 54) dX6_readAll_54 rfl ?_
            exact PW.ireturn (pc := 55) dX6_readAll_55 rfl (by
            obtain ⟨QF, QP, QT, QU, QZ⟩ := PI2 (skp (I (r + 1)) n p) hsk.1
            have gI : ∀ q z, ¬ (t ≤ q ∧ q ≤ t + 11) → ¬ (q = r ∧ z = 2) → pw_up I1 r 2 (skp (I (r + 1)) n p) q z = I q z := fun q z g1 g2 => by rw [z1 _ _ _ g2, fr q z g1 g2]
            clear y15 CP
            generalize pw_up I1 r 2 (skp (I (r + 1)) n p) = Ik at *
            have ys : ∀ v, pw_up Ik (t + 1) 6 v (t + 1) 5 = Ik (t + 1) 5 := fun v => pw_up_other (by omega)
            have yo : ∀ v q z, ¬ (q = t + 1 ∧ z = 6) → pw_up Ik (t + 1) 6 v q z = Ik q z := fun v q z g => pw_up_other g
            rw [h2]
            refine ⟨rfl, rfl, fun q z g1 g2 => by rw [yo _ _ _ (by omega), gI q z g1 g2], rfl, by rw [pw_up_self, ys], tb, ?_, ⟨by rw [yo _ _ _ (by omega)]; exact QP.1, QP.2.1, fun k g0 g1 => by rw [yo _ _ _ (by omega)]; exact QP.2.2 k g0 g1⟩, by rw [ys]; exact Tab.lasting QT, by rw [ys]; exact QU, by rw [ys]; omega⟩
            rw [ys]
            exact QF.grow (fun q a k => yo _ _ _ (by omega)) (Int.le_refl _) (fun _ _ => rfl))
          · exact absurd hE c_22
      · rw [pAll, if_neg hE] at he
        have eit : pItem (I (r + 1)) n σ (skp (I (r + 1)) n p) = pItem (I (r + 1)) n σ p := by
          unfold pItem
          rw [tok_skp, skp_skp]
        have ey : pw_up I1 r 2 (skp (I (r + 1)) n p) (r + 1) = I (r + 1) := by rw [← etx]; exact funext fun z => z1 _ _ _ (by omega)
        have CI := c_X6_readItem (sc := sc) (Γ := Γ) (R := R) d (I := pw_up I1 r 2 (skp (I (r + 1)) n p)) (n := n) (p := skp (I (r + 1)) n p) A T (by rw [z1 _ _ _ (by omega)]; exact en) (pw_up_self _ _ _ _) (by rw [ey]; exact hx) (by omega) hsk.2 (PI2 _ hsk.1) hdj
        rw [ey, eit] at CI
        have rr := pItem_rg (tx := I (r + 1)) (n := n) (σ := σ) p1
        rcases hq : pItem (I (r + 1)) n σ p with ⟨_ | σ', p'⟩
        · rw [hq] at he CI rr
          dsimp only at he rr
          rw [← he]
          refine PW.iload_n (pc := 11) dX6_readAll_11 rfl ?_
          refine PW.bipush (pc := 12) dX6_readAll_12 (by decide) ?_
          refine PW.icmp_ge (pc := 14) (tgt := 47) dX6_readAll_14 (by decide) (by first | omega | exact rg_of _) (by first | omega | exact rg_of _) (fun c_14 => ?_) (fun c_14 => ?_)
          · omega
          · refine PW.aload_n (pc := 17) dX6_readAll_17 rfl ?_
            refine PW.invV0x (pc := 18) dX6_readAll_18 mv_X6_27 (CP) (by first | assumption | rfl) rfl rfl (Nat.le_of_ble_eq_true rfl) ?_
            refine PW.iconst (pc := 21) dX6_readAll_21 ?_
            refine PW.icmp_eq (pc := 22) (tgt := 47) dX6_readAll_22 (by decide) (by first | omega | exact rg_of _) (by first | omega | exact rg_of _) (fun c_22 => ?_) (fun c_22 => ?_)
            · exact absurd c_22 hE
            · refine PW.aload_n (pc := 25) dX6_readAll_25 rfl ?_
              refine PW.aload_n (pc := 26) dX6_readAll_26 rfl ?_
              refine PW.invV0 (pc := 27) dX6_readAll_27 mv_X6_31 (CI) (by first | assumption | rfl) rfl rfl (Nat.le_of_ble_eq_true rfl) ?_
              (rintro v Γ' I' R' ⟨rfl, rfl, k1, k2, rfl, k3⟩; dsimp only at k1)
              refine PW.if_ne (pc := 30) (tgt := 41) dX6_readAll_30 (by decide) (by first | omega | exact rg_of _) (fun c_30 => ?_) (fun c_30 => ?_)
              · exact absurd rfl c_30
              · refine PW.bipush (pc := 33) dX6_readAll_33 (by decide) ?_
                refine PW.aload_n (pc := 35) dX6_readAll_35 rfl ?_
                refine PW.geti (pc := 36) dX6_readAll_36 fl_X6_24 (by decide) (by first | assumption | rfl) ?_
                rw [k1]
                refine PW.isub (pc := 39) dX6_readAll_39 ?_
                exact PW.ireturn (pc := 40) dX6_readAll_40 rfl (⟨rfl, rfl, fun q z g1 g2 => by rw [k2 q z g1 g2, z1 _ _ _ g2, fr q z g1 g2], rfl, by dsimp only; omega, k3⟩)
        · rw [hq] at he CI rr
          dsimp only at he rr
          have rr2 := rr.2 σ' rfl
          refine PW.iload_n (pc := 11) dX6_readAll_11 rfl ?_
          refine PW.bipush (pc := 12) dX6_readAll_12 (by decide) ?_
          refine PW.icmp_ge (pc := 14) (tgt := 47) dX6_readAll_14 (by decide) (by first | omega | exact rg_of _) (by first | omega | exact rg_of _) (fun c_14 => ?_) (fun c_14 => ?_)
          · omega
          · refine PW.aload_n (pc := 17) dX6_readAll_17 rfl ?_
            refine PW.invV0x (pc := 18) dX6_readAll_18 mv_X6_27 (CP) (by first | assumption | rfl) rfl rfl (Nat.le_of_ble_eq_true rfl) ?_
            refine PW.iconst (pc := 21) dX6_readAll_21 ?_
            refine PW.icmp_eq (pc := 22) (tgt := 47) dX6_readAll_22 (by decide) (by first | omega | exact rg_of _) (by first | omega | exact rg_of _) (fun c_22 => ?_) (fun c_22 => ?_)
            · exact absurd c_22 hE
            · refine PW.aload_n (pc := 25) dX6_readAll_25 rfl ?_
              refine PW.aload_n (pc := 26) dX6_readAll_26 rfl ?_
              refine PW.invV0 (pc := 27) dX6_readAll_27 mv_X6_31 (CI) (by first | assumption | rfl) rfl rfl (Nat.le_of_ble_eq_true rfl) ?_
              (rintro v Γ' I' R' ⟨rfl, rfl, k1, k2, rfl, tb', k3⟩; dsimp only at k1 k3)
              refine PW.if_ne (pc := 30) (tgt := 41) dX6_readAll_30 (by decide) (by first | omega | exact rg_of _) (fun c_30 => ?_) (fun c_30 => ?_)
              · refine PW.iinc (pc := 41) dX6_readAll_41 rfl (by decide) ?_
                refine PW.goto (pc := 44) (tgt := 11) dX6_readAll_44 (by decide) ?_
                exact ih (it + 1) p' I' σ' tb' (by omega) (by omega) (by omega) (by omega) k1 (fun q z g1 g2 => by rw [k2 q z g1 g2, z1 _ _ _ g2, fr q z g1 g2]) k3 he
              · omega
  refine PC.ofPW (by decide) (Nat.le_of_ble_eq_true rfl) ?_
  generalize hI1 : pw_up (pw_up (pw_up (pw_up I (t + 1) 5 4) (t + 1) 6 4) (t + 7) 1 0) t 5 0 = I1
  have w1 : ∀ q z, ¬ (q = t ∧ z = 5) → ¬ (q = t + 1 ∧ (z = 5 ∨ z = 6)) → ¬ (q = t + 7 ∧ z = 1) → pw_up I1 r 2 0 q z = pw_up I r 2 0 q z := fun q z g1 g2 g3 => by
    by_cases g : q = r ∧ z = 2
    · rw [g.1, g.2, pw_up_self, pw_up_self]
    · rw [pw_up_other g, pw_up_other g, ← hI1, pw_up_other (by omega), pw_up_other (by omega), pw_up_other (by omega), pw_up_other (by omega)]
  have y5 : pw_up I1 r 2 0 (t + 1) 5 = 4 := by rw [pw_up_other (by omega), ← hI1, pw_up_other (by omega), pw_up_other (by omega), pw_up_other (by omega), pw_up_self]
  have PI0 : PInv (pw_up I1 r 2 0) t pstart tc 0 := by
    refine ⟨⟨by rw [pw_up_other (by omega), ← hI1, pw_up_self]; rfl, by decide, fun k k0 k1 => absurd k1 (by show ¬ k < ((0 : Nat) : Int); omega)⟩, ⟨by rw [pw_up_other (by omega), ← hI1, pw_up_other (by omega), pw_up_self]; rfl, by decide, fun k k0 k1 => absurd k1 (by show ¬ k < ((0 : Nat) : Int); omega)⟩, ?_, fun u => ?_, by rw [y5]; decide⟩
    · rw [y5]
      exact (B.congr (fun q a b k => by rw [w1 _ _ (by omega) (by omega) (by omega), pw_up_other (by omega)])).tab
    · rw [y5]
      constructor
      · rintro ⟨i, i0, i1, e⟩
        exact Or.inl ⟨i, i0, i1, e.symm⟩
      · rintro (⟨i, i0, i1, e⟩ | ⟨k, k0, k1, -⟩)
        · exact ⟨i, i0, i1, e.symm⟩
        · exact absurd k1 (by show ¬ k < ((0 : Nat) : Int); omega)
  refine PW.aload_n (pc := 0) dX6_readAll_0 rfl ?_
  refine PW.invV0x (pc := 1) dX6_readAll_1 mv_X6_19 (c_X9_forgetAll _ T) (by first | assumption | rfl) rfl rfl (Nat.le_of_ble_eq_true rfl) ?_
  rw [hI1]
  refine PW.aload_n (pc := 4) dX6_readAll_4 rfl ?_
  refine PW.iconst (pc := 5) dX6_readAll_5 ?_
  refine PW.puti (pc := 6) dX6_readAll_6 fl_X6_24 (by first | assumption | rfl) ?_
  refine PW.iconst (pc := 9) dX6_readAll_9 ?_
  refine PW.istore_n (pc := 10) dX6_readAll_10 (by decide) ?_
  exact loop 100 0 0 _ pstart tc (by decide) (by decide) (by omega) (by omega) (pw_up_self _ _ _ _) (fun q z g1 g2 => by rw [w1 _ _ (by omega) (by omega) (by omega), pw_up_other g2]) PI0 rfl
end READALL
