section CLOSURE
variable {sc : PSc} {Γ : List PTy} {R : PRm}
set_option maxRecDepth 100000 in
set_option maxHeartbeats 1000000 in
theorem c_fill (d : Nat) {I : PIm} {a n : Nat} {v : Int} (ha : Γ[a]? = some (.inr (0, n))) (hn : n ≤ 1000) : PC sc mJ7_fill_53178 d 0 0 [.inr (some a), .inl v] Γ I R (fun vv Γ' I' R' => vv = none ∧ Γ' = Γ ∧ R' = R ∧ (∀ q z, q ≠ a → I' q z = I q z) ∧ ∀ k : Int, 0 ≤ k → k < n → I' a k = v) := by
  have loop : ∀ (N k : Nat) (I2 : PIm), n - k = N → k ≤ n → (∀ q z, q ≠ a → I2 q z = I q z) → (∀ j : Int, 0 ≤ j → j < k → I2 a j = v) → PW sc mJ7_fill_53178 d 0 0 (fun vv Γ' I' R' => vv = none ∧ Γ' = Γ ∧ R' = R ∧ (∀ q z, q ≠ a → I' q z = I q z) ∧ ∀ k : Int, 0 ≤ k → k < n → I' a k = v) 5 [some (.inr (some a)), some (.inl v), some (.inl (k : Int)), some (.inl (n : Int))] [] Γ I2 R := by
    intro N
    induction N using Nat.strongRecOn with
    | _ N ih =>
      intro k I2 hN hk e1 e2
      by_cases hlt : k < n
      · refine PW.iload_n (pc := 5) dJ7_fill_53178_5 rfl ?_
        refine PW.iload_n (pc := 6) dJ7_fill_53178_6 rfl ?_
        refine PW.icmp_ge (pc := 7) (tgt := 20) dJ7_fill_53178_7 (by decide) (by first | omega | exact rg_of _) (by first | omega | exact rg_of _) (fun c_7 => ?_) (fun c_7 => ?_)
        · omega
        · refine PW.aload_n (pc := 10) dJ7_fill_53178_10 rfl ?_
          refine PW.iload_n (pc := 11) dJ7_fill_53178_11 rfl ?_
          refine PW.iload_n (pc := 12) dJ7_fill_53178_12 rfl ?_
          refine PW.iast (pc := 13) dJ7_fill_53178_13 (by first | assumption | rfl) (by omega) (by omega) (by omega) ?_
          refine PW.iinc (pc := 14) dJ7_fill_53178_14 rfl (by decide) ?_
          refine PW.goto (pc := 17) (tgt := 5) dJ7_fill_53178_17 (by decide) ?_
          exact ih (n - (k + 1)) (by omega) (k + 1) _ rfl (by omega) (fun q z hq => by rw [pw_up_other (by omega), e1 q z hq]) (fun j j0 j1 => by by_cases q : j = (k : Int); (· rw [q, pw_up_self]); (· rw [pw_up_other (by omega), e2 j j0 (by omega)]))
      · obtain rfl : k = n := by omega
        refine PW.iload_n (pc := 5) dJ7_fill_53178_5 rfl ?_
        refine PW.iload_n (pc := 6) dJ7_fill_53178_6 rfl ?_
        refine PW.icmp_ge (pc := 7) (tgt := 20) dJ7_fill_53178_7 (by decide) (by first | omega | exact rg_of _) (by first | omega | exact rg_of _) (fun c_7 => ?_) (fun c_7 => ?_)
        · exact PW.vreturn (pc := 20) dJ7_fill_53178_20 rfl (⟨rfl, rfl, rfl, e1, e2⟩)
        · omega
  refine PC.ofPW (by decide) (Nat.le_of_ble_eq_true rfl) ?_
  refine PW.iconst (pc := 0) dJ7_fill_53178_0 ?_
  refine PW.istore_n (pc := 1) dJ7_fill_53178_1 (by decide) ?_
  refine PW.aload_n (pc := 2) dJ7_fill_53178_2 rfl ?_
  refine PW.alen (pc := 3) dJ7_fill_53178_3 (by first | assumption | rfl) ?_
  refine PW.istore_n (pc := 4) dJ7_fill_53178_4 (by decide) ?_
  exact loop n 0 I (by omega) (by omega) (fun _ _ _ => rfl) (fun j j0 j1 => by omega)
/-! Closure: 0 root, 1 chain, 2 next, 3 terms, 4 size -/
def ClosAt (Γ : List PTy) (R : PRm) (c : Nat) : Prop := Γ[c]? = some (.inl 1) ∧ R c 0 = some (c + 1) ∧ R c 1 = some (c + 2) ∧ R c 2 = some (c + 3) ∧ Γ[c + 1]? = some (.inr (0, 116)) ∧ Γ[c + 2]? = some (.inr (0, 116)) ∧ Γ[c + 3]? = some (.inr (0, 116))
set_option maxRecDepth 100000 in
set_option maxHeartbeats 1000000 in
theorem RtOK.congr {rt rt' : Int → Int} {z : Int} (h : RtOK rt z) (he : ∀ i, 0 ≤ i → i < z → rt' i = rt i) : RtOK rt' z := by
  intro i i0 i1
  obtain ⟨a, b, c⟩ := h i i0 i1
  rw [he i i0 i1]
  exact ⟨a, b, by rw [he _ a b]; exact c⟩
set_option maxRecDepth 100000 in
set_option maxHeartbeats 1000000 in
theorem RtS.congr {rt rt' : Int → Int} {z : Int} {tb : Int → Tm} {C : Tm → Tm → Prop} (h : RtS rt z tb C) (he : ∀ i, 0 ≤ i → i < z → rt' i = rt i) : RtS rt' z tb C := fun i j i0 i1 j0 j1 e => h i j i0 i1 j0 j1 (by rw [← he i i0 i1, ← he j j0 j1]; exact e)
set_option maxRecDepth 100000 in
set_option maxHeartbeats 1000000 in
theorem RtR.congr {rt rt2 rt' : Int → Int} {z : Int} (h : RtR rt2 rt z) (he : ∀ i, 0 ≤ i → i < z → rt' i = rt i) : RtR rt2 rt' z := fun i j i0 i1 j0 j1 e => by rw [he i i0 i1, he j j0 j1]; exact h i j i0 i1 j0 j1 e
set_option maxRecDepth 100000 in
set_option maxHeartbeats 1000000 in
theorem RtC.congr {rt rt' : Int → Int} {z : Int} {tb : Int → Tm} (h : RtC rt z tb) (he : ∀ i, 0 ≤ i → i < z → rt' i = rt i) : RtC rt' z tb := by
  refine ⟨fun i j l m i0 i1 j0 j1 l0 l1 m0 m1 e1 e2 e3 => ?_, fun i j l m l' m' i0 i1 j0 j1 l0 l1 m0 m1 l0' l1' m0' m1' e1 e2 e3 e4 => ?_⟩
  · rw [he l l0 l1, he m m0 m1] at e3
    rw [he i i0 i1, he j j0 j1]
    exact h.1 i j l m i0 i1 j0 j1 l0 l1 m0 m1 e1 e2 e3
  · rw [he l l0 l1, he m m0 m1] at e3
    rw [he l' l0' l1', he m' m0' m1'] at e4
    rw [he i i0 i1, he j j0 j1]
    exact h.2 i j l m l' m' i0 i1 j0 j1 l0 l1 m0 m1 l0' l1' m0' m1' e1 e2 e3 e4
/-- the roots have gone on: nothing parted, nothing joined but what must be -/
def Prog (rt rt' : Int → Int) (z : Int) (tb : Int → Tm) : Prop := RtOK rt' z ∧ RtR rt rt' z ∧ ∀ C, CCong (UT tb z) C → RtS rt z tb C → RtS rt' z tb C
set_option maxRecDepth 100000 in
set_option maxHeartbeats 1000000 in
theorem Prog.rf {rt : Int → Int} {z : Int} {tb : Int → Tm} (h : RtOK rt z) : Prog rt rt z tb := ⟨h, RtR.rf _ _, fun _ _ q => q⟩
set_option maxRecDepth 100000 in
set_option maxHeartbeats 1000000 in
theorem Prog.tr {a b c : Int → Int} {z : Int} {tb : Int → Tm} (h : Prog a b z tb) (h' : Prog b c z tb) : Prog a c z tb := ⟨h'.1, h.2.1.tr h'.2.1, fun C q s => h'.2.2 C q (h.2.2 C q s)⟩
set_option maxRecDepth 100000 in
set_option maxHeartbeats 1000000 in
theorem Prog.congr {rt rt1 rt' : Int → Int} {z : Int} {tb : Int → Tm} (h : Prog rt1 rt z tb) (he : ∀ i, 0 ≤ i → i < z → rt' i = rt i) : Prog rt1 rt' z tb := ⟨h.1.congr he, h.2.1.congr he, fun C q s => (h.2.2 C q s).congr he⟩
set_option maxRecDepth 100000 in
set_option maxHeartbeats 1000000 in
theorem Prog.mrg {rt : Int → Int} {z a b : Int} {tb : Int → Tm} (h : RtOK rt z) (a0 : 0 ≤ a) (a1 : a < z) (b0 : 0 ≤ b) (b1 : b < z) (hab : ∀ C, CCong (UT tb z) C → RtS rt z tb C → C (tb a) (tb b)) : Prog rt (mrg rt a b) z tb := ⟨mrg_ok h a0 a1 b0 b1, mrg_r rt z a b, fun C q s => mrg_s q s a0 a1 b0 b1 (hab C q s)⟩
set_option maxRecDepth 100000 in
set_option maxHeartbeats 1000000 in
theorem c_X1_same (d : Nat) {I : PIm} {c : Nat} {a b : Int} (K : ClosAt Γ R c) (hz : I c 4 ≤ 116) (hr : ∀ i, 0 ≤ i → i < I c 4 → Rg (I (c + 1) i)) (ha : 0 ≤ a ∧ a < I c 4) (hb : 0 ≤ b ∧ b < I c 4) : PC sc mX1_same d 0 0 [.inr (some c), .inl a, .inl b] Γ I R (px (some (.inl (bi (I (c + 1) a = I (c + 1) b)))) Γ I R) := by
  obtain ⟨k0, k1, k2, k3, k4, k5, k6⟩ := id K
  have ra := hr a ha.1 ha.2
  have rb := hr b hb.1 hb.2
  refine PC.ofPW (by decide) (Nat.le_of_ble_eq_true rfl) ?_
  refine PW.iload_n (pc := 0) dX1_same_0 rfl ?_
  refine PW.if_lt (pc := 1) (tgt := 43) dX1_same_1 (by decide) (by first | omega | exact rg_of _) (fun c_1 => ?_) (fun c_1 => ?_)
  · omega
  · refine PW.iload_n (pc := 4) dX1_same_4 rfl ?_
    refine PW.aload_n (pc := 5) dX1_same_5 rfl ?_
    refine PW.geti (pc := 6) dX1_same_6 fl_X1_40 (by decide) (by first | assumption | rfl) ?_
    refine PW.icmp_ge (pc := 9) (tgt := 43) dX1_same_9 (by decide) (by first | omega | exact rg_of _) (by first | omega | exact rg_of _) (fun c_9 => ?_) (fun c_9 => ?_)
    · omega
    · refine PW.iload_n (pc := 12) dX1_same_12 rfl ?_
      refine PW.if_lt (pc := 13) (tgt := 43) dX1_same_13 (by decide) (by first | omega | exact rg_of _) (fun c_13 => ?_) (fun c_13 => ?_)
      · omega
      · refine PW.iload_n (pc := 16) dX1_same_16 rfl ?_
        refine PW.aload_n (pc := 17) dX1_same_17 rfl ?_
        refine PW.geti (pc := 18) dX1_same_18 fl_X1_40 (by decide) (by first | assumption | rfl) ?_
        refine PW.icmp_ge (pc := 21) (tgt := 43) dX1_same_21 (by decide) (by first | omega | exact rg_of _) (by first | omega | exact rg_of _) (fun c_21 => ?_) (fun c_21 => ?_)
        · omega
        · refine PW.aload_n (pc := 24) dX1_same_24 rfl ?_
          refine PW.getr (pc := 25) dX1_same_25 fl_X1_9 (by first | assumption | rfl) (by first | assumption | rfl) ?_
          refine PW.iload_n (pc := 28) dX1_same_28 rfl ?_
          refine PW.iald (pc := 29) dX1_same_29 (by first | assumption | rfl) (by omega) (by omega) (by omega) ?_
          refine PW.aload_n (pc := 30) dX1_same_30 rfl ?_
          refine PW.getr (pc := 31) dX1_same_31 fl_X1_9 (by first | assumption | rfl) (by first | assumption | rfl) ?_
          refine PW.iload_n (pc := 34) dX1_same_34 rfl ?_
          refine PW.iald (pc := 35) dX1_same_35 (by first | assumption | rfl) (by omega) (by omega) (by omega) ?_
          refine PW.icmp_ne (pc := 36) (tgt := 43) dX1_same_36 (by decide) (by first | omega | exact rg_of _) (by first | omega | exact rg_of _) (fun c_36 => ?_) (fun c_36 => ?_)
          · refine PW.iconst (pc := 43) dX1_same_43 ?_
            exact PW.zreturn (pc := 44) dX1_same_44 rfl (by first | exact Or.inl rfl | exact Or.inr rfl | omega) (by first | exact pxb_pos c_36 | exact pxb_neg c_36)
          · refine PW.iconst (pc := 39) dX1_same_39 ?_
            refine PW.goto (pc := 40) (tgt := 44) dX1_same_40 (by decide) ?_
            exact PW.zreturn (pc := 44) dX1_same_44 rfl (by first | exact Or.inl rfl | exact Or.inr rfl | omega) (by first | exact pxb_pos c_36 | exact pxb_neg c_36)
set_option maxRecDepth 100000 in
set_option maxHeartbeats 1000000 in
theorem c_X1_merge (d : Nat) {I : PIm} {c : Nat} {a b : Int} (K : ClosAt Γ R c) (hz : I c 4 ≤ 116) (hr : RtOK (I (c + 1)) (I c 4)) (ha : 0 ≤ a ∧ a < I c 4) (hb : 0 ≤ b ∧ b < I c 4) : PC sc mX1_merge d 0 0 [.inr (some c), .inl a, .inl b] Γ I R (fun v Γ' I' R' => v = none ∧ Γ' = Γ ∧ R' = R ∧ (∀ q z, q ≠ c + 1 → I' q z = I q z) ∧ ∀ i, 0 ≤ i → i < I c 4 → I' (c + 1) i = mrg (I (c + 1)) a b i) := by
  obtain ⟨k0, k1, k2, k3, k4, k5, k6⟩ := id K
  have ra := hr a ha.1 ha.2
  have rb := hr b hb.1 hb.2
  have loop : ∀ (N : Nat) (k : Int) (I2 : PIm), (I c 4 - k).toNat = N → 0 ≤ k → k ≤ I c 4 → (∀ q z, q ≠ c + 1 → I2 q z = I q z) → (∀ i, 0 ≤ i → i < k → I2 (c + 1) i = mrg (I (c + 1)) a b i) → (∀ i, k ≤ i → i < I c 4 → I2 (c + 1) i = I (c + 1) i) → PW sc mX1_merge d 0 0 (fun v Γ' I' R' => v = none ∧ Γ' = Γ ∧ R' = R ∧ (∀ q z, q ≠ c + 1 → I' q z = I q z) ∧ ∀ i, 0 ≤ i → i < I c 4 → I' (c + 1) i = mrg (I (c + 1)) a b i) 43 [some (.inr (some c)), some (.inl a), some (.inl b), some (.inl (I (c + 1) a)), some (.inl (I (c + 1) b)), some (.inl k)] [] Γ I2 R := by
    intro N
    induction N using Nat.strongRecOn with
    | _ N ih =>
      intro k I2 hN k0' k1' e1 e2 e3
      have ez : I2 c 4 = I c 4 := e1 c 4 (by omega)
      by_cases hlt : k < I c 4
      · have ek := e3 k (by omega) hlt
        have rk := hr k k0' hlt
        by_cases hq : I (c + 1) k = I (c + 1) b
        · have em : mrg (I (c + 1)) a b k = I (c + 1) a := if_pos hq
          refine PW.iload (pc := 43) dX1_merge_43 rfl ?_
          refine PW.aload_n (pc := 45) dX1_merge_45 rfl ?_
          refine PW.geti (pc := 46) dX1_merge_46 fl_X1_40 (by decide) (by first | assumption | rfl) ?_
          rw [ez]
          refine PW.icmp_ge (pc := 49) (tgt := 84) dX1_merge_49 (by decide) (by first | omega | exact rg_of _) (by first | omega | exact rg_of _) (fun c_49 => ?_) (fun c_49 => ?_)
          · omega
          · refine PW.iload_n (pc := 52) dX1_merge_52 rfl ?_
            refine PW.iload (pc := 53) dX1_merge_53 rfl ?_
            refine PW.icmp_eq (pc := 55) (tgt := 84) dX1_merge_55 (by decide) (by first | omega | exact rg_of _) (by first | omega | exact rg_of _) (fun c_55 => ?_) (fun c_55 => ?_)
            · refine PW.vreturn (pc := 84) dX1_merge_84 rfl ⟨rfl, rfl, rfl, e1, fun i i0 i1 => ?_⟩
              by_cases q : i < k
              · exact e2 i i0 q
              · rw [e3 i (by omega) i1]
                unfold mrg
                split
                · omega
                · rfl
            · refine PW.aload_n (pc := 58) dX1_merge_58 rfl ?_
              refine PW.getr (pc := 59) dX1_merge_59 fl_X1_9 (by first | assumption | rfl) (by first | assumption | rfl) ?_
              refine PW.iload (pc := 62) dX1_merge_62 rfl ?_
              refine PW.iald (pc := 64) dX1_merge_64 (by first | assumption | rfl) (by omega) (by omega) (by omega) ?_
              rw [ek]
              refine PW.iload (pc := 65) dX1_merge_65 rfl ?_
              refine PW.icmp_ne (pc := 67) (tgt := 78) dX1_merge_67 (by decide) (by first | omega | exact rg_of _) (by first | omega | exact rg_of _) (fun c_67 => ?_) (fun c_67 => ?_)
              · omega
              · refine PW.aload_n (pc := 70) dX1_merge_70 rfl ?_
                refine PW.getr (pc := 71) dX1_merge_71 fl_X1_9 (by first | assumption | rfl) (by first | assumption | rfl) ?_
                refine PW.iload (pc := 74) dX1_merge_74 rfl ?_
                refine PW.iload_n (pc := 76) dX1_merge_76 rfl ?_
                refine PW.iast (pc := 77) dX1_merge_77 (by first | assumption | rfl) (by omega) (by omega) (by omega) ?_
                refine PW.iinc (pc := 78) dX1_merge_78 rfl (by decide) ?_
                refine PW.goto (pc := 81) (tgt := 43) dX1_merge_81 (by decide) ?_
                exact ih _ (by omega) (k + 1) _ rfl (by omega) (by omega) (fun q z hq => by rw [pw_up_other (by omega), e1 q z hq]) (fun i i0 i1 => by by_cases q : i = k; (· rw [q, pw_up_self, em]); (· rw [pw_up_other (by omega), e2 i i0 (by omega)])) (fun i i0 i1 => by rw [pw_up_other (by omega), e3 i (by omega) i1])
        · have em : mrg (I (c + 1)) a b k = I (c + 1) k := if_neg hq
          refine PW.iload (pc := 43) dX1_merge_43 rfl ?_
          refine PW.aload_n (pc := 45) dX1_merge_45 rfl ?_
          refine PW.geti (pc := 46) dX1_merge_46 fl_X1_40 (by decide) (by first | assumption | rfl) ?_
          rw [ez]
          refine PW.icmp_ge (pc := 49) (tgt := 84) dX1_merge_49 (by decide) (by first | omega | exact rg_of _) (by first | omega | exact rg_of _) (fun c_49 => ?_) (fun c_49 => ?_)
          · omega
          · refine PW.iload_n (pc := 52) dX1_merge_52 rfl ?_
            refine PW.iload (pc := 53) dX1_merge_53 rfl ?_
            refine PW.icmp_eq (pc := 55) (tgt := 84) dX1_merge_55 (by decide) (by first | omega | exact rg_of _) (by first | omega | exact rg_of _) (fun c_55 => ?_) (fun c_55 => ?_)
            · refine PW.vreturn (pc := 84) dX1_merge_84 rfl ⟨rfl, rfl, rfl, e1, fun i i0 i1 => ?_⟩
              by_cases q : i < k
              · exact e2 i i0 q
              · rw [e3 i (by omega) i1]
                unfold mrg
                split
                · omega
                · rfl
            · refine PW.aload_n (pc := 58) dX1_merge_58 rfl ?_
              refine PW.getr (pc := 59) dX1_merge_59 fl_X1_9 (by first | assumption | rfl) (by first | assumption | rfl) ?_
              refine PW.iload (pc := 62) dX1_merge_62 rfl ?_
              refine PW.iald (pc := 64) dX1_merge_64 (by first | assumption | rfl) (by omega) (by omega) (by omega) ?_
              rw [ek]
              refine PW.iload (pc := 65) dX1_merge_65 rfl ?_
              refine PW.icmp_ne (pc := 67) (tgt := 78) dX1_merge_67 (by decide) (by first | omega | exact rg_of _) (by first | omega | exact rg_of _) (fun c_67 => ?_) (fun c_67 => ?_)
              · refine PW.iinc (pc := 78) dX1_merge_78 rfl (by decide) ?_
                refine PW.goto (pc := 81) (tgt := 43) dX1_merge_81 (by decide) ?_
                exact ih _ (by omega) (k + 1) _ rfl (by omega) (by omega) e1 (fun i i0 i1 => by by_cases q : i = k; (· rw [q, ek, em]); (· rw [e2 i i0 (by omega)])) (fun i i0 i1 => by rw [e3 i (by omega) i1])
              · omega
      · obtain rfl : k = I c 4 := by omega
        refine PW.iload (pc := 43) dX1_merge_43 rfl ?_
        refine PW.aload_n (pc := 45) dX1_merge_45 rfl ?_
        refine PW.geti (pc := 46) dX1_merge_46 fl_X1_40 (by decide) (by first | assumption | rfl) ?_
        rw [ez]
        refine PW.icmp_ge (pc := 49) (tgt := 84) dX1_merge_49 (by decide) (by first | omega | exact rg_of _) (by first | omega | exact rg_of _) (fun c_49 => ?_) (fun c_49 => ?_)
        · exact PW.vreturn (pc := 84) dX1_merge_84 rfl (⟨rfl, rfl, rfl, e1, e2⟩)
        · omega
  refine PC.ofPW (by decide) (Nat.le_of_ble_eq_true rfl) ?_
  refine PW.iload_n (pc := 0) dX1_merge_0 rfl ?_
  refine PW.if_lt (pc := 1) (tgt := 24) dX1_merge_1 (by decide) (by first | omega | exact rg_of _) (fun c_1 => ?_) (fun c_1 => ?_)
  · omega
  · refine PW.iload_n (pc := 4) dX1_merge_4 rfl ?_
    refine PW.aload_n (pc := 5) dX1_merge_5 rfl ?_
    refine PW.geti (pc := 6) dX1_merge_6 fl_X1_40 (by decide) (by first | assumption | rfl) ?_
    refine PW.icmp_ge (pc := 9) (tgt := 24) dX1_merge_9 (by decide) (by first | omega | exact rg_of _) (by first | omega | exact rg_of _) (fun c_9 => ?_) (fun c_9 => ?_)
    · omega
    · refine PW.iload_n (pc := 12) dX1_merge_12 rfl ?_
      refine PW.if_lt (pc := 13) (tgt := 24) dX1_merge_13 (by decide) (by first | omega | exact rg_of _) (fun c_13 => ?_) (fun c_13 => ?_)
      · omega
      · refine PW.iload_n (pc := 16) dX1_merge_16 rfl ?_
        refine PW.aload_n (pc := 17) dX1_merge_17 rfl ?_
        refine PW.geti (pc := 18) dX1_merge_18 fl_X1_40 (by decide) (by first | assumption | rfl) ?_
        refine PW.icmp_lt (pc := 21) (tgt := 25) dX1_merge_21 (by decide) (by first | omega | exact rg_of _) (by first | omega | exact rg_of _) (fun c_21 => ?_) (fun c_21 => ?_)
        · refine PW.aload_n (pc := 25) dX1_merge_25 rfl ?_
          refine PW.getr (pc := 26) dX1_merge_26 fl_X1_9 (by first | assumption | rfl) (by first | assumption | rfl) ?_
          refine PW.iload_n (pc := 29) dX1_merge_29 rfl ?_
          refine PW.iald (pc := 30) dX1_merge_30 (by first | assumption | rfl) (by omega) (by omega) (by omega) ?_
          refine PW.istore_n (pc := 31) dX1_merge_31 (by decide) ?_
          refine PW.aload_n (pc := 32) dX1_merge_32 rfl ?_
          refine PW.getr (pc := 33) dX1_merge_33 fl_X1_9 (by first | assumption | rfl) (by first | assumption | rfl) ?_
          refine PW.iload_n (pc := 36) dX1_merge_36 rfl ?_
          refine PW.iald (pc := 37) dX1_merge_37 (by first | assumption | rfl) (by omega) (by omega) (by omega) ?_
          refine PW.istore (pc := 38) dX1_merge_38 (by decide) ?_
          refine PW.iconst (pc := 40) dX1_merge_40 ?_
          refine PW.istore (pc := 41) dX1_merge_41 (by decide) ?_
          exact loop _ 0 I rfl (by omega) (by omega) (fun _ _ _ => rfl) (fun i i0 i1 => by omega) (fun _ _ _ => rfl)
        · omega
def isCh (nx : Int → Int) : Int → List Int → Prop
  | a, [] => a = -1
  | a, e :: l => a = e ∧ isCh nx (nx e) l
set_option maxRecDepth 100000 in
set_option maxHeartbeats 1000000 in
theorem isCh.congr {nx nx' : Int → Int} : ∀ (l : List Int) (a : Int), isCh nx a l → (∀ e ∈ l, nx' e = nx e) → isCh nx' a l
  | [], a, h, _ => h
  | e :: l, a, h, he => ⟨h.1, by rw [he e List.mem_cons_self]; exact isCh.congr l _ h.2 (fun x hx => he x (List.mem_cons_of_mem _ hx))⟩
abbrev mtch (hd rg rt : Int → Int) (m i : Int) : Prop := hd m = hd i ∧ rt (rg m) = rt (rg i)
set_option maxRecDepth 100000 in
set_option maxHeartbeats 1000000 in
theorem c_X1_findMatch (d : Nat) {I : PIm} {c h N0 : Nat} {tb : Int → Tm} {i a : Int} {l : List Int} (K : ClosAt Γ R c) (hT : R c 3 = some h) (T : TermsAt Γ R h N0) (TB : Tab I h (I c 4) tb) (hN : I c 4 ≤ N0) (hz : I c 4 ≤ 116) (hr : RtOK (I (c + 1)) (I c 4)) (hi : 0 ≤ i ∧ i < I c 4) (hl : isCh (I (c + 3)) a l) (hle : ∀ e ∈ l, 0 ≤ e ∧ e < I c 4) (hln : (l.length : Int) ≤ I c 4) :
    PC sc mX1_findMatch d 0 0 [.inr (some c), .inl i, .inl a] Γ I R (fun v Γ' I' R' => Γ' = Γ ∧ I' = I ∧ R' = R ∧ ((∃ m ∈ l, v = some (.inl m) ∧ mtch (I (h + 1)) (I (h + 3)) (I (c + 1)) m i) ∨ (v = some (.inl (-1)) ∧ ∀ m ∈ l, ¬ mtch (I (h + 1)) (I (h + 3)) (I (c + 1)) m i))) := by
  obtain ⟨k0, k1, k2, k3, k4, k5, k6⟩ := id K
  obtain ⟨t0, t1, t2, t3, t4, t5, t6, t7, t8, t9, t10, t11⟩ := id T
  have hdi := TB.hd hi.1 hi.2
  have rri := hr _ hdi.2.2.1 (by omega)
  have loop : ∀ (l2 : List Int) (a2 n : Int), isCh (I (c + 3)) a2 l2 → (∀ e ∈ l2, e ∈ l) → 0 ≤ n → n + l2.length ≤ I c 4 → (∀ m ∈ l, ¬ mtch (I (h + 1)) (I (h + 3)) (I (c + 1)) m i ∨ m ∈ l2) → PW sc mX1_findMatch d 0 0 (fun v Γ' I' R' => Γ' = Γ ∧ I' = I ∧ R' = R ∧ ((∃ m ∈ l, v = some (.inl m) ∧ mtch (I (h + 1)) (I (h + 3)) (I (c + 1)) m i) ∨ (v = some (.inl (-1)) ∧ ∀ m ∈ l, ¬ mtch (I (h + 1)) (I (h + 3)) (I (c + 1)) m i))) 5 [some (.inr (some c)), some (.inl i), some (.inl a), some (.inl a2), some (.inl n)] [] Γ I R := by
    intro l2
    induction l2 with
    | nil =>
      intro a2 n hch hin n0 n1 hno
      obtain rfl : a2 = -1 := hch
      have hno' : ∀ m ∈ l, ¬ mtch (I (h + 1)) (I (h + 3)) (I (c + 1)) m i := fun m hm => (hno m hm).resolve_right (List.not_mem_nil)
      refine PW.iload (pc := 5) dX1_findMatch_5 rfl ?_
      refine PW.aload_n (pc := 7) dX1_findMatch_7 rfl ?_
      refine PW.geti (pc := 8) dX1_findMatch_8 fl_X1_40 (by decide) (by first | assumption | rfl) ?_
      refine PW.icmp_ge (pc := 11) (tgt := 93) dX1_findMatch_11 (by decide) (by first | omega | exact rg_of _) (by first | omega | exact rg_of _) (fun c_11 => ?_) (fun c_11 => ?_)
      · refine PW.iconst (pc := 93) dX1_findMatch_93 ?_
        exact PW.ireturn (pc := 94) dX1_findMatch_94 rfl (⟨rfl, rfl, rfl, Or.inr ⟨rfl, hno'⟩⟩)
      · refine PW.iload_n (pc := 14) dX1_findMatch_14 rfl ?_
        refine PW.if_lt (pc := 15) (tgt := 93) dX1_findMatch_15 (by decide) (by first | omega | exact rg_of _) (fun c_15 => ?_) (fun c_15 => ?_)
        · refine PW.iconst (pc := 93) dX1_findMatch_93 ?_
          exact PW.ireturn (pc := 94) dX1_findMatch_94 rfl (⟨rfl, rfl, rfl, Or.inr ⟨rfl, hno'⟩⟩)
        · omega
    | cons e l2 ih =>
      intro a2 n hch hin n0 n1 hno
      obtain ⟨rfl, hch2⟩ := hch
      have hel := hin a2 List.mem_cons_self
      have he := hle a2 hel
      have hde := TB.hd he.1 he.2
      have rre := hr _ hde.2.2.1 (by omega)
      rw [List.length_cons] at n1
      have next : ¬ mtch (I (h + 1)) (I (h + 3)) (I (c + 1)) a2 i → PW sc mX1_findMatch d 0 0 (fun v Γ' I' R' => Γ' = Γ ∧ I' = I ∧ R' = R ∧ ((∃ m ∈ l, v = some (.inl m) ∧ mtch (I (h + 1)) (I (h + 3)) (I (c + 1)) m i) ∨ (v = some (.inl (-1)) ∧ ∀ m ∈ l, ¬ mtch (I (h + 1)) (I (h + 3)) (I (c + 1)) m i))) 80 [some (.inr (some c)), some (.inl i), some (.inl a), some (.inl a2), some (.inl n)] [] Γ I R := by
        intro hne
        refine PW.aload_n (pc := 80) dX1_findMatch_80 rfl ?_
        refine PW.getr (pc := 81) dX1_findMatch_81 fl_X1_18 (by first | assumption | rfl) (by first | assumption | rfl) ?_
        refine PW.iload_n (pc := 84) dX1_findMatch_84 rfl ?_
        refine PW.iald (pc := 85) dX1_findMatch_85 (by first | assumption | rfl) (by omega) (by omega) (by omega) ?_
        refine PW.istore_n (pc := 86) dX1_findMatch_86 (by decide) ?_
        refine PW.iinc (pc := 87) dX1_findMatch_87 rfl (by decide) ?_
        refine PW.goto (pc := 90) (tgt := 5) dX1_findMatch_90 (by decide) ?_
        exact ih _ (n + 1) hch2 (fun x hx => hin x (List.mem_cons_of_mem _ hx)) (by omega) (by omega) (fun m hm => (hno m hm).elim Or.inl (fun q => (List.mem_cons.mp q).elim (fun q => Or.inl (by rw [q]; exact hne)) Or.inr))
      refine PW.iload (pc := 5) dX1_findMatch_5 rfl ?_
      refine PW.aload_n (pc := 7) dX1_findMatch_7 rfl ?_
      refine PW.geti (pc := 8) dX1_findMatch_8 fl_X1_40 (by decide) (by first | assumption | rfl) ?_
      refine PW.icmp_ge (pc := 11) (tgt := 93) dX1_findMatch_11 (by decide) (by first | omega | exact rg_of _) (by first | omega | exact rg_of _) (fun c_11 => ?_) (fun c_11 => ?_)
      · omega
      · refine PW.iload_n (pc := 14) dX1_findMatch_14 rfl ?_
        refine PW.if_lt (pc := 15) (tgt := 93) dX1_findMatch_15 (by decide) (by first | omega | exact rg_of _) (fun c_15 => ?_) (fun c_15 => ?_)
        · omega
        · refine PW.iload_n (pc := 18) dX1_findMatch_18 rfl ?_
          refine PW.aload_n (pc := 19) dX1_findMatch_19 rfl ?_
          refine PW.geti (pc := 20) dX1_findMatch_20 fl_X1_40 (by decide) (by first | assumption | rfl) ?_
          refine PW.icmp_ge (pc := 23) (tgt := 93) dX1_findMatch_23 (by decide) (by first | omega | exact rg_of _) (by first | omega | exact rg_of _) (fun c_23 => ?_) (fun c_23 => ?_)
          · omega
          · refine PW.aload_n (pc := 26) dX1_findMatch_26 rfl ?_
            refine PW.getr (pc := 27) dX1_findMatch_27 fl_X1_27 (by first | assumption | rfl) (by first | assumption | rfl) ?_
            refine PW.getr (pc := 30) dX1_findMatch_30 fl_X1_82 (by first | assumption | rfl) (by first | assumption | rfl) ?_
            refine PW.iload_n (pc := 33) dX1_findMatch_33 rfl ?_
            refine PW.iald (pc := 34) dX1_findMatch_34 (by first | assumption | rfl) (by omega) (by omega) (by omega) ?_
            refine PW.aload_n (pc := 35) dX1_findMatch_35 rfl ?_
            refine PW.getr (pc := 36) dX1_findMatch_36 fl_X1_27 (by first | assumption | rfl) (by first | assumption | rfl) ?_
            refine PW.getr (pc := 39) dX1_findMatch_39 fl_X1_82 (by first | assumption | rfl) (by first | assumption | rfl) ?_
            refine PW.iload_n (pc := 42) dX1_findMatch_42 rfl ?_
            refine PW.iald (pc := 43) dX1_findMatch_43 (by first | assumption | rfl) (by omega) (by omega) (by omega) ?_
            refine PW.icmp_ne (pc := 44) (tgt := 80) dX1_findMatch_44 (by decide) (by first | omega | exact rg_of _) (by first | omega | exact rg_of _) (fun c_44 => ?_) (fun c_44 => ?_)
            · exact next (by omega)
            · refine PW.aload_n (pc := 47) dX1_findMatch_47 rfl ?_
              refine PW.getr (pc := 48) dX1_findMatch_48 fl_X1_9 (by first | assumption | rfl) (by first | assumption | rfl) ?_
              refine PW.aload_n (pc := 51) dX1_findMatch_51 rfl ?_
              refine PW.getr (pc := 52) dX1_findMatch_52 fl_X1_27 (by first | assumption | rfl) (by first | assumption | rfl) ?_
              refine PW.getr (pc := 55) dX1_findMatch_55 fl_X1_85 (by first | assumption | rfl) (by first | assumption | rfl) ?_
              refine PW.iload_n (pc := 58) dX1_findMatch_58 rfl ?_
              refine PW.iald (pc := 59) dX1_findMatch_59 (by first | assumption | rfl) (by omega) (by omega) (by omega) ?_
              refine PW.iald (pc := 60) dX1_findMatch_60 (by first | assumption | rfl) (by omega) (by omega) (by omega) ?_
              refine PW.aload_n (pc := 61) dX1_findMatch_61 rfl ?_
              refine PW.getr (pc := 62) dX1_findMatch_62 fl_X1_9 (by first | assumption | rfl) (by first | assumption | rfl) ?_
              refine PW.aload_n (pc := 65) dX1_findMatch_65 rfl ?_
              refine PW.getr (pc := 66) dX1_findMatch_66 fl_X1_27 (by first | assumption | rfl) (by first | assumption | rfl) ?_
              refine PW.getr (pc := 69) dX1_findMatch_69 fl_X1_85 (by first | assumption | rfl) (by first | assumption | rfl) ?_
              refine PW.iload_n (pc := 72) dX1_findMatch_72 rfl ?_
              refine PW.iald (pc := 73) dX1_findMatch_73 (by first | assumption | rfl) (by omega) (by omega) (by omega) ?_
              refine PW.iald (pc := 74) dX1_findMatch_74 (by first | assumption | rfl) (by omega) (by omega) (by omega) ?_
              refine PW.icmp_ne (pc := 75) (tgt := 80) dX1_findMatch_75 (by decide) (by first | omega | exact rg_of _) (by first | omega | exact rg_of _) (fun c_75 => ?_) (fun c_75 => ?_)
              · exact next (by omega)
              · refine PW.iload_n (pc := 78) dX1_findMatch_78 rfl ?_
                exact PW.ireturn (pc := 79) dX1_findMatch_79 rfl (⟨rfl, rfl, rfl, Or.inl ⟨a2, hel, rfl, by omega⟩⟩)
  refine PC.ofPW (by decide) (Nat.le_of_ble_eq_true rfl) ?_
  refine PW.iload_n (pc := 0) dX1_findMatch_0 rfl ?_
  refine PW.istore_n (pc := 1) dX1_findMatch_1 (by decide) ?_
  refine PW.iconst (pc := 2) dX1_findMatch_2 ?_
  refine PW.istore (pc := 3) dX1_findMatch_3 (by decide) ?_
  exact loop l a 0 hl (fun _ h => h) (by omega) (by omega) (fun m hm => Or.inr hm)
end CLOSURE
