section READER
variable {sc : PSc} {Γ : List PTy} {R : PRm}
/-! Reader: 0 text, 1 size, 2 place -/
def ReadAt (Γ : List PTy) (R : PRm) (r : Nat) : Prop := Γ[r]? = some (.inl 6) ∧ R r 0 = some (r + 1) ∧ Γ[r + 1]? = some (.inr (0, 100))
set_option maxRecDepth 100000 in
set_option maxHeartbeats 1000000 in
theorem pw_up_up (I : PIm) (a : Nat) (i v u : Int) : pw_up (pw_up I a i v) a i u = pw_up I a i u := by
  funext b j
  unfold pw_up
  split <;> rfl
set_option maxRecDepth 100000 in
set_option maxHeartbeats 1000000 in
theorem pw_up_id {I : PIm} {a : Nat} {i v : Int} (h : I a i = v) : pw_up I a i v = I := by
  funext b j
  unfold pw_up
  split
  next q => rw [q.1, q.2, h]
  next => rfl
def TxOK (tx : Int → Int) (n : Int) : Prop := (0 ≤ n ∧ n ≤ 100) ∧ ∀ k, 0 ≤ k → k < n → 0 ≤ tx k ∧ tx k ≤ 255
set_option maxRecDepth 100000 in
set_option maxHeartbeats 1000000 in
theorem tok_rg {tx : Int → Int} {n p : Int} (h : TxOK tx n) (h0 : 0 ≤ p) (h1 : p ≤ n) : -1 ≤ tok tx n p ∧ tok tx n p ≤ 255 := by
  have := skp_ge tx h1
  unfold tok
  split
  · have := h.2 (skp tx n p) (by omega) (by omega)
    omega
  · omega
set_option maxRecDepth 100000 in
set_option maxHeartbeats 1000000 in
theorem c_X6_peek (d : Nat) {I : PIm} {r : Nat} {n p : Int} (A : ReadAt Γ R r) (hn : I r 1 = n) (hp : I r 2 = p) (hx : TxOK (I (r + 1)) n) (h0 : 0 ≤ p) (h1 : p ≤ n) : PC sc mX6_peek d 0 0 [.inr (some r)] Γ I R (px (some (.inl (tok (I (r + 1)) n p))) Γ (pw_up I r 2 (skp (I (r + 1)) n p)) R) := by
  obtain ⟨a0, a1, a2⟩ := id A
  obtain ⟨hn0, hx0⟩ := id hx
  have loop : ∀ (N : Nat) (p' : Int), (n - p').toNat = N → 0 ≤ p' → p' ≤ n → skp (I (r + 1)) n p' = skp (I (r + 1)) n p → PW sc mX6_peek d 0 0 (px (some (.inl (tok (I (r + 1)) n p))) Γ (pw_up I r 2 (skp (I (r + 1)) n p)) R) 0 [some (.inr (some r))] [] Γ (pw_up I r 2 p') R := by
    intro N
    induction N using Nat.strongRecOn with
    | _ N ih =>
      intro p' hN q0 q1 he
      have e1 : pw_up I r 2 p' r 1 = n := by rw [pw_up_other (by omega)]; exact hn
      have e2 : pw_up I r 2 p' r 2 = p' := pw_up_self _ _ _ _
      have e3 : ∀ z, pw_up I r 2 p' (r + 1) z = I (r + 1) z := fun z => pw_up_other (by omega)
      by_cases hb : p' < n ∧ I (r + 1) p' = 32
      · have he2 : skp (I (r + 1)) n (p' + 1) = skp (I (r + 1)) n p := by rw [← he, skp_eq (I (r + 1)) n p', if_pos hb]
        have x0 := hx0 p' q0 hb.1
        refine PW.aload_n (pc := 0) dX6_peek_0 rfl ?_
        refine PW.geti (pc := 1) dX6_peek_1 fl_X6_24 (by decide) (by first | assumption | rfl) ?_
        rw [e2]
        refine PW.if_lt (pc := 4) (tgt := 54) dX6_peek_4 (by decide) (by first | omega | exact rg_of _) (fun c_4 => ?_) (fun c_4 => ?_)
        · omega
        · refine PW.aload_n (pc := 7) dX6_peek_7 rfl ?_
          refine PW.geti (pc := 8) dX6_peek_8 fl_X6_24 (by decide) (by first | assumption | rfl) ?_
          refine PW.aload_n (pc := 11) dX6_peek_11 rfl ?_
          refine PW.geti (pc := 12) dX6_peek_12 fl_X6_15 (by decide) (by first | assumption | rfl) ?_
          rw [e1, e2]
          refine PW.icmp_ge (pc := 15) (tgt := 54) dX6_peek_15 (by decide) (by first | omega | exact rg_of _) (by first | omega | exact rg_of _) (fun c_15 => ?_) (fun c_15 => ?_)
          · omega
          · refine PW.aload_n (pc := 18) dX6_peek_18 rfl ?_
            refine PW.geti (pc := 19) dX6_peek_19 fl_X6_24 (by decide) (by first | assumption | rfl) ?_
            rw [e2]
            refine PW.bipush (pc := 22) dX6_peek_22 (by decide) ?_
            refine PW.icmp_ge (pc := 24) (tgt := 54) dX6_peek_24 (by decide) (by first | omega | exact rg_of _) (by first | omega | exact rg_of _) (fun c_24 => ?_) (fun c_24 => ?_)
            · omega
            · refine PW.aload_n (pc := 27) dX6_peek_27 rfl ?_
              refine PW.getr (pc := 28) dX6_peek_28 fl_X6_9 (by first | assumption | rfl) (by first | assumption | rfl) ?_
              refine PW.aload_n (pc := 31) dX6_peek_31 rfl ?_
              refine PW.geti (pc := 32) dX6_peek_32 fl_X6_24 (by decide) (by first | assumption | rfl) ?_
              rw [e2]
              refine PW.iald (pc := 35) dX6_peek_35 (by first | assumption | rfl) (by omega) (by omega) (by omega) ?_
              rw [e3]
              refine PW.bipush (pc := 36) dX6_peek_36 (by decide) ?_
              refine PW.icmp_ne (pc := 38) (tgt := 54) dX6_peek_38 (by decide) (by first | omega | exact rg_of _) (by first | omega | exact rg_of _) (fun c_38 => ?_) (fun c_38 => ?_)
              · exact absurd hb.2 c_38
              · refine PW.aload_n (pc := 41) dX6_peek_41 rfl ?_
                refine PW.dup (pc := 42) dX6_peek_42 ?_
                refine PW.geti (pc := 43) dX6_peek_43 fl_X6_24 (by decide) (by first | assumption | rfl) ?_
                rw [e2]
                refine PW.iconst (pc := 46) dX6_peek_46 ?_
                refine PW.iadd (pc := 47) dX6_peek_47 ?_
                refine PW.puti (pc := 48) dX6_peek_48 fl_X6_24 (by first | assumption | rfl) ?_
                rw [pw_up_up]
                refine PW.goto (pc := 51) (tgt := 0) dX6_peek_51 (by decide) ?_
                exact ih _ (by omega) (p' + 1) rfl (by omega) (by omega) he2
      · have he2 : skp (I (r + 1)) n p = p' := by rw [← he, skp_eq (I (r + 1)) n p', if_neg hb]
        have hlast : PW sc mX6_peek d 0 0 (px (some (.inl (tok (I (r + 1)) n p))) Γ (pw_up I r 2 (skp (I (r + 1)) n p)) R) 54 [some (.inr (some r))] [] Γ (pw_up I r 2 p') R := by
          have et : tok (I (r + 1)) n p = if p' < n then I (r + 1) p' else -1 := by unfold tok; rw [he2]
          rw [et, he2]
          refine PW.aload_n (pc := 54) dX6_peek_54 rfl ?_
          refine PW.geti (pc := 55) dX6_peek_55 fl_X6_24 (by decide) (by first | assumption | rfl) ?_
          rw [e2]
          refine PW.if_lt (pc := 58) (tgt := 93) dX6_peek_58 (by decide) (by first | omega | exact rg_of _) (fun c_58 => ?_) (fun c_58 => ?_)
          · omega
          · refine PW.aload_n (pc := 61) dX6_peek_61 rfl ?_
            refine PW.geti (pc := 62) dX6_peek_62 fl_X6_24 (by decide) (by first | assumption | rfl) ?_
            refine PW.aload_n (pc := 65) dX6_peek_65 rfl ?_
            refine PW.geti (pc := 66) dX6_peek_66 fl_X6_15 (by decide) (by first | assumption | rfl) ?_
            rw [e1, e2]
            refine PW.icmp_ge (pc := 69) (tgt := 93) dX6_peek_69 (by decide) (by first | omega | exact rg_of _) (by first | omega | exact rg_of _) (fun c_69 => ?_) (fun c_69 => ?_)
            · refine PW.iconst (pc := 93) dX6_peek_93 ?_
              exact PW.ireturn (pc := 94) dX6_peek_94 rfl (by first | (rw [if_pos (by omega)]; exact px_rfl) | (rw [if_neg (by omega)]; exact px_rfl))
            · refine PW.aload_n (pc := 72) dX6_peek_72 rfl ?_
              refine PW.geti (pc := 73) dX6_peek_73 fl_X6_24 (by decide) (by first | assumption | rfl) ?_
              rw [e2]
              refine PW.bipush (pc := 76) dX6_peek_76 (by decide) ?_
              refine PW.icmp_ge (pc := 78) (tgt := 93) dX6_peek_78 (by decide) (by first | omega | exact rg_of _) (by first | omega | exact rg_of _) (fun c_78 => ?_) (fun c_78 => ?_)
              · omega
              · refine PW.aload_n (pc := 81) dX6_peek_81 rfl ?_
                refine PW.getr (pc := 82) dX6_peek_82 fl_X6_9 (by first | assumption | rfl) (by first | assumption | rfl) ?_
                refine PW.aload_n (pc := 85) dX6_peek_85 rfl ?_
                refine PW.geti (pc := 86) dX6_peek_86 fl_X6_24 (by decide) (by first | assumption | rfl) ?_
                rw [e2]
                refine PW.iald (pc := 89) dX6_peek_89 (by first | assumption | rfl) (by omega) (by omega) (by omega) ?_
                rw [e3]
                refine PW.goto (pc := 90) (tgt := 94) dX6_peek_90 (by decide) ?_
                exact PW.ireturn (pc := 94) dX6_peek_94 rfl (by first | (rw [if_pos (by omega)]; exact px_rfl) | (rw [if_neg (by omega)]; exact px_rfl))
        by_cases hlt : p' < n
        · have x0 := hx0 p' q0 hlt
          refine PW.aload_n (pc := 0) dX6_peek_0 rfl ?_
          refine PW.geti (pc := 1) dX6_peek_1 fl_X6_24 (by decide) (by first | assumption | rfl) ?_
          rw [e2]
          refine PW.if_lt (pc := 4) (tgt := 54) dX6_peek_4 (by decide) (by first | omega | exact rg_of _) (fun c_4 => ?_) (fun c_4 => ?_)
          · omega
          · refine PW.aload_n (pc := 7) dX6_peek_7 rfl ?_
            refine PW.geti (pc := 8) dX6_peek_8 fl_X6_24 (by decide) (by first | assumption | rfl) ?_
            refine PW.aload_n (pc := 11) dX6_peek_11 rfl ?_
            refine PW.geti (pc := 12) dX6_peek_12 fl_X6_15 (by decide) (by first | assumption | rfl) ?_
            rw [e1, e2]
            refine PW.icmp_ge (pc := 15) (tgt := 54) dX6_peek_15 (by decide) (by first | omega | exact rg_of _) (by first | omega | exact rg_of _) (fun c_15 => ?_) (fun c_15 => ?_)
            · omega
            · refine PW.aload_n (pc := 18) dX6_peek_18 rfl ?_
              refine PW.geti (pc := 19) dX6_peek_19 fl_X6_24 (by decide) (by first | assumption | rfl) ?_
              rw [e2]
              refine PW.bipush (pc := 22) dX6_peek_22 (by decide) ?_
              refine PW.icmp_ge (pc := 24) (tgt := 54) dX6_peek_24 (by decide) (by first | omega | exact rg_of _) (by first | omega | exact rg_of _) (fun c_24 => ?_) (fun c_24 => ?_)
              · omega
              · refine PW.aload_n (pc := 27) dX6_peek_27 rfl ?_
                refine PW.getr (pc := 28) dX6_peek_28 fl_X6_9 (by first | assumption | rfl) (by first | assumption | rfl) ?_
                refine PW.aload_n (pc := 31) dX6_peek_31 rfl ?_
                refine PW.geti (pc := 32) dX6_peek_32 fl_X6_24 (by decide) (by first | assumption | rfl) ?_
                rw [e2]
                refine PW.iald (pc := 35) dX6_peek_35 (by first | assumption | rfl) (by omega) (by omega) (by omega) ?_
                rw [e3]
                refine PW.bipush (pc := 36) dX6_peek_36 (by decide) ?_
                refine PW.icmp_ne (pc := 38) (tgt := 54) dX6_peek_38 (by decide) (by first | omega | exact rg_of _) (by first | omega | exact rg_of _) (fun c_38 => ?_) (fun c_38 => ?_)
                · exact hlast
                · exact absurd ⟨hlt, c_38⟩ hb
        · refine PW.aload_n (pc := 0) dX6_peek_0 rfl ?_
          refine PW.geti (pc := 1) dX6_peek_1 fl_X6_24 (by decide) (by first | assumption | rfl) ?_
          rw [e2]
          refine PW.if_lt (pc := 4) (tgt := 54) dX6_peek_4 (by decide) (by first | omega | exact rg_of _) (fun c_4 => ?_) (fun c_4 => ?_)
          · omega
          · refine PW.aload_n (pc := 7) dX6_peek_7 rfl ?_
            refine PW.geti (pc := 8) dX6_peek_8 fl_X6_24 (by decide) (by first | assumption | rfl) ?_
            refine PW.aload_n (pc := 11) dX6_peek_11 rfl ?_
            refine PW.geti (pc := 12) dX6_peek_12 fl_X6_15 (by decide) (by first | assumption | rfl) ?_
            rw [e1, e2]
            refine PW.icmp_ge (pc := 15) (tgt := 54) dX6_peek_15 (by decide) (by first | omega | exact rg_of _) (by first | omega | exact rg_of _) (fun c_15 => ?_) (fun c_15 => ?_)
            · exact hlast
            · omega
  refine PC.ofPW (by decide) (Nat.le_of_ble_eq_true rfl) ?_
  have := loop _ p rfl h0 h1 rfl
  rw [pw_up_id hp] at this
  exact this
set_option maxRecDepth 100000 in
set_option maxHeartbeats 1000000 in
theorem c_X6_accept (d : Nat) {I : PIm} {r : Nat} {n p c : Int} (A : ReadAt Γ R r) (hn : I r 1 = n) (hp : I r 2 = p) (hx : TxOK (I (r + 1)) n) (h0 : 0 ≤ p) (h1 : p ≤ n) (hc : Rg c) : PC sc mX6_accept (d + 1) 0 0 [.inr (some r), .inl c] Γ I R (px (some (.inl (bi (tok (I (r + 1)) n p = c)))) Γ (pw_up I r 2 (if tok (I (r + 1)) n p = c then skp (I (r + 1)) n p + 1 else skp (I (r + 1)) n p)) R) := by
  have a0 := A.1
  have htk := tok_rg hx h0 h1
  refine PC.ofPW (by decide) (Nat.le_of_ble_eq_true rfl) ?_
  by_cases h : tok (I (r + 1)) n p = c
  · rw [bi_pos h, if_pos h]
    refine PW.aload_n (pc := 0) dX6_accept_0 rfl ?_
    refine PW.invV0x (pc := 1) dX6_accept_1 mv_X6_27 (c_X6_peek _ A hn hp hx h0 h1) (by first | assumption | rfl) rfl rfl (Nat.le_of_ble_eq_true rfl) ?_
    refine PW.iload_n (pc := 4) dX6_accept_4 rfl ?_
    refine PW.icmp_eq (pc := 5) (tgt := 10) dX6_accept_5 (by decide) (by first | omega | exact rg_of _) (by first | omega | exact rg_of _) (fun c_5 => ?_) (fun c_5 => ?_)
    · refine PW.aload_n (pc := 10) dX6_accept_10 rfl ?_
      refine PW.dup (pc := 11) dX6_accept_11 ?_
      refine PW.geti (pc := 12) dX6_accept_12 fl_X6_24 (by decide) (by first | assumption | rfl) ?_
      rw [pw_up_self]
      refine PW.iconst (pc := 15) dX6_accept_15 ?_
      refine PW.iadd (pc := 16) dX6_accept_16 ?_
      refine PW.puti (pc := 17) dX6_accept_17 fl_X6_24 (by first | assumption | rfl) ?_
      rw [pw_up_up]
      refine PW.iconst (pc := 20) dX6_accept_20 ?_
      exact PW.zreturn (pc := 21) dX6_accept_21 rfl (by first | exact Or.inl rfl | exact Or.inr rfl | omega) (px_rfl)
    · exact absurd h c_5
  · rw [bi_neg h, if_neg h]
    refine PW.aload_n (pc := 0) dX6_accept_0 rfl ?_
    refine PW.invV0x (pc := 1) dX6_accept_1 mv_X6_27 (c_X6_peek _ A hn hp hx h0 h1) (by first | assumption | rfl) rfl rfl (Nat.le_of_ble_eq_true rfl) ?_
    refine PW.iload_n (pc := 4) dX6_accept_4 rfl ?_
    refine PW.icmp_eq (pc := 5) (tgt := 10) dX6_accept_5 (by decide) (by first | omega | exact rg_of _) (by first | omega | exact rg_of _) (fun c_5 => ?_) (fun c_5 => ?_)
    · exact absurd c_5 h
    · refine PW.iconst (pc := 8) dX6_accept_8 ?_
      exact PW.zreturn (pc := 9) dX6_accept_9 rfl (by first | exact Or.inl rfl | exact Or.inr rfl | omega) (px_rfl)
set_option maxRecDepth 100000 in
set_option maxHeartbeats 1000000 in
theorem GrowS.trans {I0 I1 I2 : PIm} {h : Nat} {tb0 tb1 tb2 : Int → Tm} {S1 S2 S : Tm → Prop} (G1 : GrowS I0 I1 h tb0 tb1 S1) (G2 : GrowS I1 I2 h tb1 tb2 S2) (hS : ∀ u, S u ↔ S1 u ∨ S2 u) : GrowS I0 I2 h tb0 tb2 S := by
  obtain ⟨a1, a2, a3, a4, a5, a6⟩ := G1
  obtain ⟨b1, b2, b3, b4, b5, b6⟩ := G2
  refine ⟨b1, by omega, fun j hj => by rw [b3 j (by omega), a3 j hj], fun j j0 j1 => ?_, fun u hu => ?_, by rw [b6, a6]⟩
  · rcases b4 j j0 j1 with q | q
    · rcases a4 j j0 q with w | w
      · exact Or.inl w
      · exact Or.inr ((hS _).mpr (Or.inl (by rw [b3 j q]; exact w)))
    · exact Or.inr ((hS _).mpr (Or.inr q))
  · rcases (hS u).mp hu with q | q
    · obtain ⟨j, j0, j1, e⟩ := a5 u q
      exact ⟨j, j0, by omega, by rw [b3 j j1]; exact e⟩
    · exact b5 u q
/-- behind a reading of a term -/
def RTp (Γ : List PTy) (R : PRm) (I0 : PIm) (r h : Nat) (tb0 : Int → Tm) (p0 : Int) (res : Option Tm × Int) : PPost := fun v Γ' I' R' => Γ' = Γ ∧ R' = R ∧ I' r 2 = res.2 ∧ (∀ q z, ¬ (h ≤ q ∧ q ≤ h + 5) → ¬ (q = r ∧ z = 2) → I' q z = I0 q z) ∧ ∃ (tb' : Int → Tm) (S : Tm → Prop), GrowS I0 I' h tb0 tb' S ∧ I' h 5 - I0 h 5 ≤ res.2 - p0 ∧ (match res.1 with
  | some t => (∃ i, v = some (.inl i) ∧ 0 ≤ i ∧ i < I' h 5 ∧ tb' i = t) ∧ ∀ u, S u ↔ sub u t
  | none => v = some (.inl (-1)))
set_option maxRecDepth 100000 in
set_option maxHeartbeats 1000000 in
theorem c_X6_readTerm (m : Nat) : ∀ (d : Nat) {I : PIm} {r h : Nat} {n p : Int} {tb : Int → Tm} (A : ReadAt Γ R r) (T : TermsAt Γ R h 116) (hn : I r 1 = n) (hp : I r 2 = p) (hx : TxOK (I (r + 1)) n) (h0 : 0 ≤ p) (h1 : p ≤ n) (hm : m ≤ 4) (TB : Tab I h (I h 5) tb) (hz : I h 5 ≤ 4 + p) (hdj : r + 1 < h), PC sc mX6_readTerm (d + m + 3) 0 0 [.inr (some r), .inr (some h), .inl (4 - (m : Int))] Γ I R (RTp Γ R I r h tb p (pT (I (r + 1)) n m p)) := by
  induction m with
  | zero =>
    intro d I r h n p tb A T hn hp hx h0 h1 hm TB hz hdj
    have a0 := A.1
    have hn100 := hx.1
    have htk := tok_rg hx h0 h1
    have hsk := skp_ge (I (r + 1)) h1
    have gr : ∀ v, GrowS I (pw_up I r 2 v) h tb tb (fun _ => False) := fun v => (GrowS.start TB (fun _ h => h)).congr (fun q a b k => pw_up_other (by omega))
    have e5 : ∀ v, pw_up I r 2 v h 5 = I h 5 := fun v => pw_up_other (by omega)
    have hT4 := TB.1
    refine PC.ofPW (by decide) (Nat.le_of_ble_eq_true rfl) ?_
    by_cases hc : 97 ≤ tok (I (r + 1)) n p ∧ tok (I (r + 1)) n p ≤ 100
    · rw [pT_const hc]
      refine PW.aload_n (pc := 0) dX6_readTerm_0 rfl ?_
      refine PW.invV0x (pc := 1) dX6_readTerm_1 mv_X6_27 (c_X6_peek _ A hn hp hx h0 h1) (by first | assumption | rfl) rfl rfl (Nat.le_of_ble_eq_true rfl) ?_
      refine PW.istore_n (pc := 4) dX6_readTerm_4 (by decide) ?_
      refine PW.iload_n (pc := 5) dX6_readTerm_5 rfl ?_
      refine PW.bipush (pc := 6) dX6_readTerm_6 (by decide) ?_
      refine PW.icmp_lt (pc := 8) (tgt := 32) dX6_readTerm_8 (by decide) (by first | omega | exact rg_of _) (by first | omega | exact rg_of _) (fun c_8 => ?_) (fun c_8 => ?_)
      · omega
      · refine PW.iload_n (pc := 11) dX6_readTerm_11 rfl ?_
        refine PW.bipush (pc := 12) dX6_readTerm_12 (by decide) ?_
        refine PW.icmp_gt (pc := 14) (tgt := 32) dX6_readTerm_14 (by decide) (by first | omega | exact rg_of _) (by first | omega | exact rg_of _) (fun c_14 => ?_) (fun c_14 => ?_)
        · omega
        · refine PW.aload_n (pc := 17) dX6_readTerm_17 rfl ?_
          refine PW.dup (pc := 18) dX6_readTerm_18 ?_
          refine PW.geti (pc := 19) dX6_readTerm_19 fl_X6_24 (by decide) (by first | assumption | rfl) ?_
          rw [pw_up_self]
          refine PW.iconst (pc := 22) dX6_readTerm_22 ?_
          refine PW.iadd (pc := 23) dX6_readTerm_23 ?_
          refine PW.puti (pc := 24) dX6_readTerm_24 fl_X6_24 (by first | assumption | rfl) ?_
          rw [pw_up_up]
          refine PW.iload_n (pc := 27) dX6_readTerm_27 rfl ?_
          refine PW.bipush (pc := 28) dX6_readTerm_28 (by decide) ?_
          refine PW.isub (pc := 30) dX6_readTerm_30 ?_
          exact PW.ireturn (pc := 31) dX6_readTerm_31 rfl (⟨rfl, rfl, pw_up_self _ _ _ _, fun q z _ hq => pw_up_other hq, tb, _, gr _, by rw [e5]; dsimp only; omega, ⟨_, rfl, by omega, by rw [e5]; omega, ((TB.row (by omega) (by omega)).1 (by omega)).2.1⟩, fun u => ⟨fun q => q.elim, fun q => (sub_tc u _ q).elim⟩⟩)
    · rw [pT_no hc (Or.inl rfl)]
      refine PW.aload_n (pc := 0) dX6_readTerm_0 rfl ?_
      refine PW.invV0x (pc := 1) dX6_readTerm_1 mv_X6_27 (c_X6_peek _ A hn hp hx h0 h1) (by first | assumption | rfl) rfl rfl (Nat.le_of_ble_eq_true rfl) ?_
      refine PW.istore_n (pc := 4) dX6_readTerm_4 (by decide) ?_
      refine PW.iload_n (pc := 5) dX6_readTerm_5 rfl ?_
      refine PW.bipush (pc := 6) dX6_readTerm_6 (by decide) ?_
      refine PW.icmp_lt (pc := 8) (tgt := 32) dX6_readTerm_8 (by decide) (by first | omega | exact rg_of _) (by first | omega | exact rg_of _) (fun c_8 => ?_) (fun c_8 => ?_)
      · refine PW.iload_n (pc := 32) dX6_readTerm_32 rfl ?_
        refine PW.bipush (pc := 33) dX6_readTerm_33 (by decide) ?_
        refine PW.icmp_eq (pc := 35) (tgt := 44) dX6_readTerm_35 (by decide) (by first | omega | exact rg_of _) (by first | omega | exact rg_of _) (fun c_35 => ?_) (fun c_35 => ?_)
        · refine PW.iload_n (pc := 44) dX6_readTerm_44 rfl ?_
          refine PW.iconst (pc := 45) dX6_readTerm_45 ?_
          refine PW.icmp_lt (pc := 46) (tgt := 51) dX6_readTerm_46 (by decide) (by first | omega | exact rg_of _) (by first | omega | exact rg_of _) (fun c_46 => ?_) (fun c_46 => ?_)
          · omega
          · refine PW.iconst (pc := 49) dX6_readTerm_49 ?_
            exact PW.ireturn (pc := 50) dX6_readTerm_50 rfl (⟨rfl, rfl, pw_up_self _ _ _ _, fun q z _ hq => pw_up_other hq, tb, _, gr _, by rw [e5]; dsimp only; omega, rfl⟩)
        · refine PW.iload_n (pc := 38) dX6_readTerm_38 rfl ?_
          refine PW.bipush (pc := 39) dX6_readTerm_39 (by decide) ?_
          refine PW.icmp_ne (pc := 41) (tgt := 49) dX6_readTerm_41 (by decide) (by first | omega | exact rg_of _) (by first | omega | exact rg_of _) (fun c_41 => ?_) (fun c_41 => ?_)
          · refine PW.iconst (pc := 49) dX6_readTerm_49 ?_
            exact PW.ireturn (pc := 50) dX6_readTerm_50 rfl (⟨rfl, rfl, pw_up_self _ _ _ _, fun q z _ hq => pw_up_other hq, tb, _, gr _, by rw [e5]; dsimp only; omega, rfl⟩)
          · refine PW.iload_n (pc := 44) dX6_readTerm_44 rfl ?_
            refine PW.iconst (pc := 45) dX6_readTerm_45 ?_
            refine PW.icmp_lt (pc := 46) (tgt := 51) dX6_readTerm_46 (by decide) (by first | omega | exact rg_of _) (by first | omega | exact rg_of _) (fun c_46 => ?_) (fun c_46 => ?_)
            · omega
            · refine PW.iconst (pc := 49) dX6_readTerm_49 ?_
              exact PW.ireturn (pc := 50) dX6_readTerm_50 rfl (⟨rfl, rfl, pw_up_self _ _ _ _, fun q z _ hq => pw_up_other hq, tb, _, gr _, by rw [e5]; dsimp only; omega, rfl⟩)
      · refine PW.iload_n (pc := 11) dX6_readTerm_11 rfl ?_
        refine PW.bipush (pc := 12) dX6_readTerm_12 (by decide) ?_
        refine PW.icmp_gt (pc := 14) (tgt := 32) dX6_readTerm_14 (by decide) (by first | omega | exact rg_of _) (by first | omega | exact rg_of _) (fun c_14 => ?_) (fun c_14 => ?_)
        · refine PW.iload_n (pc := 32) dX6_readTerm_32 rfl ?_
          refine PW.bipush (pc := 33) dX6_readTerm_33 (by decide) ?_
          refine PW.icmp_eq (pc := 35) (tgt := 44) dX6_readTerm_35 (by decide) (by first | omega | exact rg_of _) (by first | omega | exact rg_of _) (fun c_35 => ?_) (fun c_35 => ?_)
          · refine PW.iload_n (pc := 44) dX6_readTerm_44 rfl ?_
            refine PW.iconst (pc := 45) dX6_readTerm_45 ?_
            refine PW.icmp_lt (pc := 46) (tgt := 51) dX6_readTerm_46 (by decide) (by first | omega | exact rg_of _) (by first | omega | exact rg_of _) (fun c_46 => ?_) (fun c_46 => ?_)
            · omega
            · refine PW.iconst (pc := 49) dX6_readTerm_49 ?_
              exact PW.ireturn (pc := 50) dX6_readTerm_50 rfl (⟨rfl, rfl, pw_up_self _ _ _ _, fun q z _ hq => pw_up_other hq, tb, _, gr _, by rw [e5]; dsimp only; omega, rfl⟩)
          · refine PW.iload_n (pc := 38) dX6_readTerm_38 rfl ?_
            refine PW.bipush (pc := 39) dX6_readTerm_39 (by decide) ?_
            refine PW.icmp_ne (pc := 41) (tgt := 49) dX6_readTerm_41 (by decide) (by first | omega | exact rg_of _) (by first | omega | exact rg_of _) (fun c_41 => ?_) (fun c_41 => ?_)
            · refine PW.iconst (pc := 49) dX6_readTerm_49 ?_
              exact PW.ireturn (pc := 50) dX6_readTerm_50 rfl (⟨rfl, rfl, pw_up_self _ _ _ _, fun q z _ hq => pw_up_other hq, tb, _, gr _, by rw [e5]; dsimp only; omega, rfl⟩)
            · refine PW.iload_n (pc := 44) dX6_readTerm_44 rfl ?_
              refine PW.iconst (pc := 45) dX6_readTerm_45 ?_
              refine PW.icmp_lt (pc := 46) (tgt := 51) dX6_readTerm_46 (by decide) (by first | omega | exact rg_of _) (by first | omega | exact rg_of _) (fun c_46 => ?_) (fun c_46 => ?_)
              · omega
              · refine PW.iconst (pc := 49) dX6_readTerm_49 ?_
                exact PW.ireturn (pc := 50) dX6_readTerm_50 rfl (⟨rfl, rfl, pw_up_self _ _ _ _, fun q z _ hq => pw_up_other hq, tb, _, gr _, by rw [e5]; dsimp only; omega, rfl⟩)
        · omega
  | succ m ih =>
    intro d I r h n p tb A T hn hp hx h0 h1 hm TB hz hdj
    have a0 := A.1
    have hn100 := hx.1
    have t0 := T.1
    have htk := tok_rg hx h0 h1
    have hsk := skp_ge (I (r + 1)) h1
    have gr : ∀ v, GrowS I (pw_up I r 2 v) h tb tb (fun _ => False) := fun v => (GrowS.start TB (fun _ h => h)).congr (fun q a b k => pw_up_other (by omega))
    have e5 : ∀ v, pw_up I r 2 v h 5 = I h 5 := fun v => pw_up_other (by omega)
    have etx : ∀ v, pw_up I r 2 v (r + 1) = I (r + 1) := fun v => funext fun z => pw_up_other (by omega)
    have hT4 := TB.1
    refine PC.ofPW (by decide) (Nat.le_of_ble_eq_true rfl) ?_
    by_cases hc : 97 ≤ tok (I (r + 1)) n p ∧ tok (I (r + 1)) n p ≤ 100
    · rw [pT_const hc]
      refine PW.aload_n (pc := 0) dX6_readTerm_0 rfl ?_
      refine PW.invV0x (pc := 1) dX6_readTerm_1 mv_X6_27 (c_X6_peek _ A hn hp hx h0 h1) (by first | assumption | rfl) rfl rfl (Nat.le_of_ble_eq_true rfl) ?_
      refine PW.istore_n (pc := 4) dX6_readTerm_4 (by decide) ?_
      refine PW.iload_n (pc := 5) dX6_readTerm_5 rfl ?_
      refine PW.bipush (pc := 6) dX6_readTerm_6 (by decide) ?_
      refine PW.icmp_lt (pc := 8) (tgt := 32) dX6_readTerm_8 (by decide) (by first | omega | exact rg_of _) (by first | omega | exact rg_of _) (fun c_8 => ?_) (fun c_8 => ?_)
      · omega
      · refine PW.iload_n (pc := 11) dX6_readTerm_11 rfl ?_
        refine PW.bipush (pc := 12) dX6_readTerm_12 (by decide) ?_
        refine PW.icmp_gt (pc := 14) (tgt := 32) dX6_readTerm_14 (by decide) (by first | omega | exact rg_of _) (by first | omega | exact rg_of _) (fun c_14 => ?_) (fun c_14 => ?_)
        · omega
        · refine PW.aload_n (pc := 17) dX6_readTerm_17 rfl ?_
          refine PW.dup (pc := 18) dX6_readTerm_18 ?_
          refine PW.geti (pc := 19) dX6_readTerm_19 fl_X6_24 (by decide) (by first | assumption | rfl) ?_
          rw [pw_up_self]
          refine PW.iconst (pc := 22) dX6_readTerm_22 ?_
          refine PW.iadd (pc := 23) dX6_readTerm_23 ?_
          refine PW.puti (pc := 24) dX6_readTerm_24 fl_X6_24 (by first | assumption | rfl) ?_
          rw [pw_up_up]
          refine PW.iload_n (pc := 27) dX6_readTerm_27 rfl ?_
          refine PW.bipush (pc := 28) dX6_readTerm_28 (by decide) ?_
          refine PW.isub (pc := 30) dX6_readTerm_30 ?_
          exact PW.ireturn (pc := 31) dX6_readTerm_31 rfl (⟨rfl, rfl, pw_up_self _ _ _ _, fun q z _ hq => pw_up_other hq, tb, _, gr _, by rw [e5]; dsimp only; omega, ⟨_, rfl, by omega, by rw [e5]; omega, ((TB.row (by omega) (by omega)).1 (by omega)).2.1⟩, fun u => ⟨fun q => q.elim, fun q => (sub_tc u _ q).elim⟩⟩)
    · by_cases hfg : tok (I (r + 1)) n p = 102 ∨ tok (I (r + 1)) n p = 103
      · have hlt := tok_lt (tx := I (r + 1)) (n := n) (p := p) (by omega)
        generalize hq0 : skp (I (r + 1)) n p + 1 = q at *
        have C1 : PC sc mX6_readTerm (d + m + 3) 0 0 [.inr (some r), .inr (some h), .inl (4 - (m : Int))] Γ (pw_up I r 2 q) R (RTp Γ R (pw_up I r 2 q) r h tb q (pT (I (r + 1)) n m q)) := by
          have := ih d (I := pw_up I r 2 q) (n := n) (p := q) A T (by rw [pw_up_other (by omega)]; exact hn) (pw_up_self _ _ _ _) (by rw [etx]; exact hx) (by omega) (by omega) (by omega) (by rw [e5]; exact TB.congr (fun q a b k => pw_up_other (by omega))) (by rw [e5]; omega) hdj
          rwa [etx] at this
        have elv : (4 - ((m + 1 : Nat) : Int)) + 1 = 4 - (m : Int) := by omega
        have rr1 := pT_rg (tx := I (r + 1)) (n := n) m q (by omega)
        have start : ∀ {post : PPost}, (∀ o4 o5 : Option PV, PW sc mX6_readTerm (d + (m + 1) + 3) 0 0 post 61 [some (.inr (some r)), some (.inr (some h)), some (.inl (4 - ((m + 1 : Nat) : Int))), some (.inl (tok (I (r + 1)) n p)), o4, o5] [] Γ (pw_up I r 2 q) R) → PW sc mX6_readTerm (d + (m + 1) + 3) 0 0 post 0 (pw_L0 [.inr (some r), .inr (some h), .inl (4 - ((m + 1 : Nat) : Int))] 6) [] Γ I R := by
          intro post K
          refine PW.aload_n (pc := 0) dX6_readTerm_0 rfl ?_
          refine PW.invV0x (pc := 1) dX6_readTerm_1 mv_X6_27 (c_X6_peek _ A hn hp hx h0 h1) (by first | assumption | rfl) rfl rfl (Nat.le_of_ble_eq_true rfl) ?_
          refine PW.istore_n (pc := 4) dX6_readTerm_4 (by decide) ?_
          refine PW.iload_n (pc := 5) dX6_readTerm_5 rfl ?_
          refine PW.bipush (pc := 6) dX6_readTerm_6 (by decide) ?_
          refine PW.icmp_lt (pc := 8) (tgt := 32) dX6_readTerm_8 (by decide) (by first | omega | exact rg_of _) (by first | omega | exact rg_of _) (fun c_8 => ?_) (fun c_8 => ?_)
          · refine PW.iload_n (pc := 32) dX6_readTerm_32 rfl ?_
            refine PW.bipush (pc := 33) dX6_readTerm_33 (by decide) ?_
            refine PW.icmp_eq (pc := 35) (tgt := 44) dX6_readTerm_35 (by decide) (by first | omega | exact rg_of _) (by first | omega | exact rg_of _) (fun c_35 => ?_) (fun c_35 => ?_)
            · refine PW.iload_n (pc := 44) dX6_readTerm_44 rfl ?_
              refine PW.iconst (pc := 45) dX6_readTerm_45 ?_
              refine PW.icmp_lt (pc := 46) (tgt := 51) dX6_readTerm_46 (by decide) (by first | omega | exact rg_of _) (by first | omega | exact rg_of _) (fun c_46 => ?_) (fun c_46 => ?_)
              · refine PW.aload_n (pc := 51) dX6_readTerm_51 rfl ?_
                refine PW.dup (pc := 52) dX6_readTerm_52 ?_
                refine PW.geti (pc := 53) dX6_readTerm_53 fl_X6_24 (by decide) (by first | assumption | rfl) ?_
                rw [pw_up_self]
                refine PW.iconst (pc := 56) dX6_readTerm_56 ?_
                refine PW.iadd (pc := 57) dX6_readTerm_57 ?_
                rw [hq0]
                refine PW.puti (pc := 58) dX6_readTerm_58 fl_X6_24 (by first | assumption | rfl) ?_
                rw [pw_up_up]; exact K _ _
              · omega
            · refine PW.iload_n (pc := 38) dX6_readTerm_38 rfl ?_
              refine PW.bipush (pc := 39) dX6_readTerm_39 (by decide) ?_
              refine PW.icmp_ne (pc := 41) (tgt := 49) dX6_readTerm_41 (by decide) (by first | omega | exact rg_of _) (by first | omega | exact rg_of _) (fun c_41 => ?_) (fun c_41 => ?_)
              · omega
              · refine PW.iload_n (pc := 44) dX6_readTerm_44 rfl ?_
                refine PW.iconst (pc := 45) dX6_readTerm_45 ?_
                refine PW.icmp_lt (pc := 46) (tgt := 51) dX6_readTerm_46 (by decide) (by first | omega | exact rg_of _) (by first | omega | exact rg_of _) (fun c_46 => ?_) (fun c_46 => ?_)
                · refine PW.aload_n (pc := 51) dX6_readTerm_51 rfl ?_
                  refine PW.dup (pc := 52) dX6_readTerm_52 ?_
                  refine PW.geti (pc := 53) dX6_readTerm_53 fl_X6_24 (by decide) (by first | assumption | rfl) ?_
                  rw [pw_up_self]
                  refine PW.iconst (pc := 56) dX6_readTerm_56 ?_
                  refine PW.iadd (pc := 57) dX6_readTerm_57 ?_
                  rw [hq0]
                  refine PW.puti (pc := 58) dX6_readTerm_58 fl_X6_24 (by first | assumption | rfl) ?_
                  rw [pw_up_up]; exact K _ _
                · omega
          · refine PW.iload_n (pc := 11) dX6_readTerm_11 rfl ?_
            refine PW.bipush (pc := 12) dX6_readTerm_12 (by decide) ?_
            refine PW.icmp_gt (pc := 14) (tgt := 32) dX6_readTerm_14 (by decide) (by first | omega | exact rg_of _) (by first | omega | exact rg_of _) (fun c_14 => ?_) (fun c_14 => ?_)
            · refine PW.iload_n (pc := 32) dX6_readTerm_32 rfl ?_
              refine PW.bipush (pc := 33) dX6_readTerm_33 (by decide) ?_
              refine PW.icmp_eq (pc := 35) (tgt := 44) dX6_readTerm_35 (by decide) (by first | omega | exact rg_of _) (by first | omega | exact rg_of _) (fun c_35 => ?_) (fun c_35 => ?_)
              · refine PW.iload_n (pc := 44) dX6_readTerm_44 rfl ?_
                refine PW.iconst (pc := 45) dX6_readTerm_45 ?_
                refine PW.icmp_lt (pc := 46) (tgt := 51) dX6_readTerm_46 (by decide) (by first | omega | exact rg_of _) (by first | omega | exact rg_of _) (fun c_46 => ?_) (fun c_46 => ?_)
                · refine PW.aload_n (pc := 51) dX6_readTerm_51 rfl ?_
                  refine PW.dup (pc := 52) dX6_readTerm_52 ?_
                  refine PW.geti (pc := 53) dX6_readTerm_53 fl_X6_24 (by decide) (by first | assumption | rfl) ?_
                  rw [pw_up_self]
                  refine PW.iconst (pc := 56) dX6_readTerm_56 ?_
                  refine PW.iadd (pc := 57) dX6_readTerm_57 ?_
                  rw [hq0]
                  refine PW.puti (pc := 58) dX6_readTerm_58 fl_X6_24 (by first | assumption | rfl) ?_
                  rw [pw_up_up]; exact K _ _
                · omega
              · refine PW.iload_n (pc := 38) dX6_readTerm_38 rfl ?_
                refine PW.bipush (pc := 39) dX6_readTerm_39 (by decide) ?_
                refine PW.icmp_ne (pc := 41) (tgt := 49) dX6_readTerm_41 (by decide) (by first | omega | exact rg_of _) (by first | omega | exact rg_of _) (fun c_41 => ?_) (fun c_41 => ?_)
                · omega
                · refine PW.iload_n (pc := 44) dX6_readTerm_44 rfl ?_
                  refine PW.iconst (pc := 45) dX6_readTerm_45 ?_
                  refine PW.icmp_lt (pc := 46) (tgt := 51) dX6_readTerm_46 (by decide) (by first | omega | exact rg_of _) (by first | omega | exact rg_of _) (fun c_46 => ?_) (fun c_46 => ?_)
                  · refine PW.aload_n (pc := 51) dX6_readTerm_51 rfl ?_
                    refine PW.dup (pc := 52) dX6_readTerm_52 ?_
                    refine PW.geti (pc := 53) dX6_readTerm_53 fl_X6_24 (by decide) (by first | assumption | rfl) ?_
                    rw [pw_up_self]
                    refine PW.iconst (pc := 56) dX6_readTerm_56 ?_
                    refine PW.iadd (pc := 57) dX6_readTerm_57 ?_
                    rw [hq0]
                    refine PW.puti (pc := 58) dX6_readTerm_58 fl_X6_24 (by first | assumption | rfl) ?_
                    rw [pw_up_up]; exact K _ _
                  · omega
            · omega
        refine start (fun o4 o5 => ?_)
        rcases hr1 : pT (I (r + 1)) n m q with ⟨_ | ta, p1⟩
        · have eres : pT (I (r + 1)) n (m + 1) p = (none, p1) := by
            rcases hfg with hf | hg
            · rw [pT_f hf, hq0, hr1]
            · rw [pT_g hg, hq0, hr1]
          rw [eres]
          rw [hr1] at C1 rr1
          refine PW.aload_n (pc := 61) dX6_readTerm_61 rfl ?_
          refine PW.aload_n (pc := 62) dX6_readTerm_62 rfl ?_
          refine PW.iload_n (pc := 63) dX6_readTerm_63 rfl ?_
          refine PW.iconst (pc := 64) dX6_readTerm_64 ?_
          refine PW.iadd (pc := 65) dX6_readTerm_65 ?_
          rw [elv]
          refine PW.invV0 (pc := 66) dX6_readTerm_66 mv_X6_55 (C1) (by first | assumption | rfl) rfl rfl (Nat.le_of_ble_eq_true rfl) ?_
          (rintro v Γ' I' R' ⟨rfl, rfl, k1, k2, tb', S, k3, k4, rfl⟩)
          refine PW.istore (pc := 69) dX6_readTerm_69 (by decide) ?_
          refine PW.iload (pc := 71) dX6_readTerm_71 rfl ?_
          refine PW.iconst (pc := 73) dX6_readTerm_73 ?_
          refine PW.icmp_ne (pc := 74) (tgt := 79) dX6_readTerm_74 (by decide) (by first | omega | exact rg_of _) (by first | omega | exact rg_of _) (fun c_74 => ?_) (fun c_74 => ?_)
          · exact absurd rfl c_74
          · refine PW.iconst (pc := 77) dX6_readTerm_77 ?_
            exact PW.ireturn (pc := 78) dX6_readTerm_78 rfl (⟨rfl, rfl, k1, fun q z h1 h2 => by rw [k2 q z h1 h2, pw_up_other h2], tb', S, (gr q).trans k3 (fun u => ⟨Or.inr, fun w => w.elim (fun w => w.elim) id⟩), by rw [e5] at k4; dsimp only at k4 ⊢; omega, rfl⟩)
        · rw [hr1] at C1 rr1
          have rr2 := rr1.2 rfl
          by_cases hf : tok (I (r + 1)) n p = 102
          · have eres : pT (I (r + 1)) n (m + 1) p = (some (tf ta), p1) := by rw [pT_f hf, hq0, hr1]
            rw [eres]
            refine PW.aload_n (pc := 61) dX6_readTerm_61 rfl ?_
            refine PW.aload_n (pc := 62) dX6_readTerm_62 rfl ?_
            refine PW.iload_n (pc := 63) dX6_readTerm_63 rfl ?_
            refine PW.iconst (pc := 64) dX6_readTerm_64 ?_
            refine PW.iadd (pc := 65) dX6_readTerm_65 ?_
            rw [elv]
            refine PW.invV0 (pc := 66) dX6_readTerm_66 mv_X6_55 (C1) (by first | assumption | rfl) rfl rfl (Nat.le_of_ble_eq_true rfl) ?_
            (rintro v Γ' I' R' ⟨rfl, rfl, k1, k2, tb', S, k3, k4, ⟨i, rfl, i0, i1, i2⟩, k5⟩; rw [e5] at k4; dsimp only at k1 k4)
            refine PW.istore (pc := 69) dX6_readTerm_69 (by decide) ?_
            refine PW.iload (pc := 71) dX6_readTerm_71 rfl ?_
            refine PW.iconst (pc := 73) dX6_readTerm_73 ?_
            refine PW.icmp_ne (pc := 74) (tgt := 79) dX6_readTerm_74 (by decide) (by first | omega | exact rg_of _) (by first | omega | exact rg_of _) (fun c_74 => ?_) (fun c_74 => ?_)
            · refine PW.iload_n (pc := 79) dX6_readTerm_79 rfl ?_
              refine PW.bipush (pc := 80) dX6_readTerm_80 (by decide) ?_
              refine PW.icmp_ne (pc := 82) (tgt := 95) dX6_readTerm_82 (by decide) (by first | omega | exact rg_of _) (by first | omega | exact rg_of _) (fun c_82 => ?_) (fun c_82 => ?_)
              · exact absurd hf c_82
              · refine PW.aload_n (pc := 85) dX6_readTerm_85 rfl ?_
                refine PW.iconst (pc := 86) dX6_readTerm_86 ?_
                refine PW.iload (pc := 87) dX6_readTerm_87 rfl ?_
                refine PW.iload (pc := 89) dX6_readTerm_89 rfl ?_
                refine PW.invV0 (pc := 91) dX6_readTerm_91 mv_X6_67 (c_X8_make _ T k3.1 (by omega) (Or.inl rfl) ⟨i0, i1⟩ ⟨i0, i1⟩ (by omega) (by rfl) (t := tf ta) (by rw [if_neg (by decide), i2])) (by first | assumption | rfl) rfl rfl (Nat.le_of_ble_eq_true rfl) ?_
                (rintro v Γ' I'' R' ⟨rfl, rfl, i', tb'', rfl, hM⟩)
                exact PW.ireturn (pc := 94) dX6_readTerm_94 rfl (by
                have G := k3.made hM (S' := fun u => sub u (tf ta)) (fun u => by rw [sub_tf, k5]; exact or_comm)
                obtain ⟨m1, m2, m3, m4, m5, m6, m7, m8⟩ := hM
                exact ⟨rfl, rfl, by rw [m7 r 2 (by omega)]; exact k1, fun q z h1 h2 => by rw [m7 q z h1, k2 q z h1 h2, pw_up_other h2], tb'', _, (gr q).trans G (fun u => ⟨Or.inr, fun w => w.elim (fun w => w.elim) id⟩), by dsimp only; omega, ⟨i', rfl, m1.1, m1.2, m2⟩, fun u => Iff.rfl⟩)
            · omega
          · have hg : tok (I (r + 1)) n p = 103 := by omega
            rcases hr2 : pT (I (r + 1)) n m p1 with ⟨_ | tb2, p2⟩
            · have eres : pT (I (r + 1)) n (m + 1) p = (none, p2) := by rw [pT_g hg, hq0, hr1]; dsimp only; rw [hr2]
              rw [eres]
              refine PW.aload_n (pc := 61) dX6_readTerm_61 rfl ?_
              refine PW.aload_n (pc := 62) dX6_readTerm_62 rfl ?_
              refine PW.iload_n (pc := 63) dX6_readTerm_63 rfl ?_
              refine PW.iconst (pc := 64) dX6_readTerm_64 ?_
              refine PW.iadd (pc := 65) dX6_readTerm_65 ?_
              rw [elv]
              refine PW.invV0 (pc := 66) dX6_readTerm_66 mv_X6_55 (C1) (by first | assumption | rfl) rfl rfl (Nat.le_of_ble_eq_true rfl) ?_
              (rintro v Γ' I' R' ⟨rfl, rfl, k1, k2, tb', S, k3, k4, ⟨i, rfl, i0, i1, i2⟩, k5⟩; rw [e5] at k4; dsimp only at k1 k4)
              refine PW.istore (pc := 69) dX6_readTerm_69 (by decide) ?_
              refine PW.iload (pc := 71) dX6_readTerm_71 rfl ?_
              refine PW.iconst (pc := 73) dX6_readTerm_73 ?_
              refine PW.icmp_ne (pc := 74) (tgt := 79) dX6_readTerm_74 (by decide) (by first | omega | exact rg_of _) (by first | omega | exact rg_of _) (fun c_74 => ?_) (fun c_74 => ?_)
              · refine PW.iload_n (pc := 79) dX6_readTerm_79 rfl ?_
                refine PW.bipush (pc := 80) dX6_readTerm_80 (by decide) ?_
                refine PW.icmp_ne (pc := 82) (tgt := 95) dX6_readTerm_82 (by decide) (by first | omega | exact rg_of _) (by first | omega | exact rg_of _) (fun c_82 => ?_) (fun c_82 => ?_)
                · have ex : I' (r + 1) = I (r + 1) := funext fun z => by rw [k2 (r + 1) z (by omega) (by omega), pw_up_other (by omega)]
                  have C2 := ih d (I := I') (n := n) (p := p1) A T (by rw [k2 r 1 (by omega) (by omega), pw_up_other (by omega)]; exact hn) k1 (by rw [ex]; exact hx) (by omega) (by omega) (by omega) k3.1 (by omega) hdj
                  rw [ex, hr2] at C2
                  refine PW.aload_n (pc := 95) dX6_readTerm_95 rfl ?_
                  refine PW.aload_n (pc := 96) dX6_readTerm_96 rfl ?_
                  refine PW.iload_n (pc := 97) dX6_readTerm_97 rfl ?_
                  refine PW.iconst (pc := 98) dX6_readTerm_98 ?_
                  refine PW.iadd (pc := 99) dX6_readTerm_99 ?_
                  rw [elv]
                  refine PW.invV0 (pc := 100) dX6_readTerm_100 mv_X6_55 (C2) (by first | assumption | rfl) rfl rfl (Nat.le_of_ble_eq_true rfl) ?_
                  (rintro v Γ' I'' R' ⟨rfl, rfl, l1, l2, tb'', S2, l3, l4, rfl⟩; dsimp only at l1 l4)
                  refine PW.istore (pc := 103) dX6_readTerm_103 (by decide) ?_
                  refine PW.iload (pc := 105) dX6_readTerm_105 rfl ?_
                  refine PW.iconst (pc := 107) dX6_readTerm_107 ?_
                  refine PW.icmp_ne (pc := 108) (tgt := 115) dX6_readTerm_108 (by decide) (by first | omega | exact rg_of _) (by first | omega | exact rg_of _) (fun c_108 => ?_) (fun c_108 => ?_)
                  · exact absurd rfl c_108
                  · refine PW.iconst (pc := 111) dX6_readTerm_111 ?_
                    refine PW.goto (pc := 112) (tgt := 124) dX6_readTerm_112 (by decide) ?_
                    exact PW.ireturn (pc := 124) dX6_readTerm_124 rfl (⟨rfl, rfl, l1, fun q z h1 h2 => by rw [l2 q z h1 h2, k2 q z h1 h2, pw_up_other h2], tb'', _, ((gr q).trans k3 (S := S) (fun u => ⟨Or.inr, fun w => w.elim (fun w => w.elim) id⟩)).trans l3 (fun u => Iff.rfl), by dsimp only; omega, rfl⟩)
                · exact absurd c_82 hf
              · omega
            · have eres : pT (I (r + 1)) n (m + 1) p = (some (tg ta tb2), p2) := by rw [pT_g hg, hq0, hr1]; dsimp only; rw [hr2]
              have rr3 := pT_rg (tx := I (r + 1)) (n := n) m p1 (by omega)
              rw [hr2] at rr3
              rw [eres]
              refine PW.aload_n (pc := 61) dX6_readTerm_61 rfl ?_
              refine PW.aload_n (pc := 62) dX6_readTerm_62 rfl ?_
              refine PW.iload_n (pc := 63) dX6_readTerm_63 rfl ?_
              refine PW.iconst (pc := 64) dX6_readTerm_64 ?_
              refine PW.iadd (pc := 65) dX6_readTerm_65 ?_
              rw [elv]
              refine PW.invV0 (pc := 66) dX6_readTerm_66 mv_X6_55 (C1) (by first | assumption | rfl) rfl rfl (Nat.le_of_ble_eq_true rfl) ?_
              (rintro v Γ' I' R' ⟨rfl, rfl, k1, k2, tb', S, k3, k4, ⟨i, rfl, i0, i1, i2⟩, k5⟩; rw [e5] at k4; dsimp only at k1 k4 rr3)
              refine PW.istore (pc := 69) dX6_readTerm_69 (by decide) ?_
              refine PW.iload (pc := 71) dX6_readTerm_71 rfl ?_
              refine PW.iconst (pc := 73) dX6_readTerm_73 ?_
              refine PW.icmp_ne (pc := 74) (tgt := 79) dX6_readTerm_74 (by decide) (by first | omega | exact rg_of _) (by first | omega | exact rg_of _) (fun c_74 => ?_) (fun c_74 => ?_)
              · refine PW.iload_n (pc := 79) dX6_readTerm_79 rfl ?_
                refine PW.bipush (pc := 80) dX6_readTerm_80 (by decide) ?_
                refine PW.icmp_ne (pc := 82) (tgt := 95) dX6_readTerm_82 (by decide) (by first | omega | exact rg_of _) (by first | omega | exact rg_of _) (fun c_82 => ?_) (fun c_82 => ?_)
                · have ex : I' (r + 1) = I (r + 1) := funext fun z => by rw [k2 (r + 1) z (by omega) (by omega), pw_up_other (by omega)]
                  have C2 := ih d (I := I') (n := n) (p := p1) A T (by rw [k2 r 1 (by omega) (by omega), pw_up_other (by omega)]; exact hn) k1 (by rw [ex]; exact hx) (by omega) (by omega) (by omega) k3.1 (by omega) hdj
                  rw [ex, hr2] at C2
                  refine PW.aload_n (pc := 95) dX6_readTerm_95 rfl ?_
                  refine PW.aload_n (pc := 96) dX6_readTerm_96 rfl ?_
                  refine PW.iload_n (pc := 97) dX6_readTerm_97 rfl ?_
                  refine PW.iconst (pc := 98) dX6_readTerm_98 ?_
                  refine PW.iadd (pc := 99) dX6_readTerm_99 ?_
                  rw [elv]
                  refine PW.invV0 (pc := 100) dX6_readTerm_100 mv_X6_55 (C2) (by first | assumption | rfl) rfl rfl (Nat.le_of_ble_eq_true rfl) ?_
                  (rintro v Γ' I'' R' ⟨rfl, rfl, l1, l2, tb'', S2, l3, l4, ⟨j, rfl, j0, j1, j2⟩, l5⟩; dsimp only at l1 l4)
                  refine PW.istore (pc := 103) dX6_readTerm_103 (by decide) ?_
                  refine PW.iload (pc := 105) dX6_readTerm_105 rfl ?_
                  refine PW.iconst (pc := 107) dX6_readTerm_107 ?_
                  refine PW.icmp_ne (pc := 108) (tgt := 115) dX6_readTerm_108 (by decide) (by first | omega | exact rg_of _) (by first | omega | exact rg_of _) (fun c_108 => ?_) (fun c_108 => ?_)
                  · refine PW.aload_n (pc := 115) dX6_readTerm_115 rfl ?_
                    refine PW.iconst (pc := 116) dX6_readTerm_116 ?_
                    refine PW.iload (pc := 117) dX6_readTerm_117 rfl ?_
                    refine PW.iload (pc := 119) dX6_readTerm_119 rfl ?_
                    refine PW.invV0 (pc := 121) dX6_readTerm_121 mv_X6_67 (c_X8_make _ T l3.1 (by omega) (Or.inr rfl) ⟨i0, by have := l3.2.1; omega⟩ ⟨j0, j1⟩ (by omega) (by rfl) (t := tg ta tb2) (by rw [if_pos rfl, l3.2.2.1 i i1, i2, j2])) (by first | assumption | rfl) rfl rfl (Nat.le_of_ble_eq_true rfl) ?_
                    (rintro v Γ' I3 R' ⟨rfl, rfl, i', tb3, rfl, hM⟩)
                    exact PW.ireturn (pc := 124) dX6_readTerm_124 rfl (by
                    have G := (k3.trans l3 (S := fun u => sub u ta ∨ sub u tb2) (fun u => by rw [k5, l5])).made hM (S' := fun u => sub u (tg ta tb2)) (fun u => by rw [sub_tg]; exact or_comm)
                    obtain ⟨m1, m2, m3, m4, m5, m6, m7, m8⟩ := hM
                    exact ⟨rfl, rfl, by rw [m7 r 2 (by omega)]; exact l1, fun q z h1 h2 => by rw [m7 q z h1, l2 q z h1 h2, k2 q z h1 h2, pw_up_other h2], tb3, _, (gr q).trans G (fun u => ⟨Or.inr, fun w => w.elim (fun w => w.elim) id⟩), by dsimp only; omega, ⟨i', rfl, m1.1, m1.2, m2⟩, fun u => Iff.rfl⟩)
                  · omega
                · exact absurd c_82 hf
              · omega
      · rw [pT_no hc (Or.inr (by omega))]
        refine PW.aload_n (pc := 0) dX6_readTerm_0 rfl ?_
        refine PW.invV0x (pc := 1) dX6_readTerm_1 mv_X6_27 (c_X6_peek _ A hn hp hx h0 h1) (by first | assumption | rfl) rfl rfl (Nat.le_of_ble_eq_true rfl) ?_
        refine PW.istore_n (pc := 4) dX6_readTerm_4 (by decide) ?_
        refine PW.iload_n (pc := 5) dX6_readTerm_5 rfl ?_
        refine PW.bipush (pc := 6) dX6_readTerm_6 (by decide) ?_
        refine PW.icmp_lt (pc := 8) (tgt := 32) dX6_readTerm_8 (by decide) (by first | omega | exact rg_of _) (by first | omega | exact rg_of _) (fun c_8 => ?_) (fun c_8 => ?_)
        · refine PW.iload_n (pc := 32) dX6_readTerm_32 rfl ?_
          refine PW.bipush (pc := 33) dX6_readTerm_33 (by decide) ?_
          refine PW.icmp_eq (pc := 35) (tgt := 44) dX6_readTerm_35 (by decide) (by first | omega | exact rg_of _) (by first | omega | exact rg_of _) (fun c_35 => ?_) (fun c_35 => ?_)
          · omega
          · refine PW.iload_n (pc := 38) dX6_readTerm_38 rfl ?_
            refine PW.bipush (pc := 39) dX6_readTerm_39 (by decide) ?_
            refine PW.icmp_ne (pc := 41) (tgt := 49) dX6_readTerm_41 (by decide) (by first | omega | exact rg_of _) (by first | omega | exact rg_of _) (fun c_41 => ?_) (fun c_41 => ?_)
            · refine PW.iconst (pc := 49) dX6_readTerm_49 ?_
              exact PW.ireturn (pc := 50) dX6_readTerm_50 rfl (⟨rfl, rfl, pw_up_self _ _ _ _, fun q z _ hq => pw_up_other hq, tb, _, gr _, by rw [e5]; dsimp only; omega, rfl⟩)
            · omega
        · refine PW.iload_n (pc := 11) dX6_readTerm_11 rfl ?_
          refine PW.bipush (pc := 12) dX6_readTerm_12 (by decide) ?_
          refine PW.icmp_gt (pc := 14) (tgt := 32) dX6_readTerm_14 (by decide) (by first | omega | exact rg_of _) (by first | omega | exact rg_of _) (fun c_14 => ?_) (fun c_14 => ?_)
          · refine PW.iload_n (pc := 32) dX6_readTerm_32 rfl ?_
            refine PW.bipush (pc := 33) dX6_readTerm_33 (by decide) ?_
            refine PW.icmp_eq (pc := 35) (tgt := 44) dX6_readTerm_35 (by decide) (by first | omega | exact rg_of _) (by first | omega | exact rg_of _) (fun c_35 => ?_) (fun c_35 => ?_)
            · omega
            · refine PW.iload_n (pc := 38) dX6_readTerm_38 rfl ?_
              refine PW.bipush (pc := 39) dX6_readTerm_39 (by decide) ?_
              refine PW.icmp_ne (pc := 41) (tgt := 49) dX6_readTerm_41 (by decide) (by first | omega | exact rg_of _) (by first | omega | exact rg_of _) (fun c_41 => ?_) (fun c_41 => ?_)
              · refine PW.iconst (pc := 49) dX6_readTerm_49 ?_
                exact PW.ireturn (pc := 50) dX6_readTerm_50 rfl (⟨rfl, rfl, pw_up_self _ _ _ _, fun q z _ hq => pw_up_other hq, tb, _, gr _, by rw [e5]; dsimp only; omega, rfl⟩)
              · omega
          · omega
end READER
