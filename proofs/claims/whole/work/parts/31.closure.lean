section CLOSURE
variable {sc : PSc} {Γ : List PTy} {R : PRm}
set_option maxRecDepth 100000 in
set_option maxHeartbeats 1000000 in
theorem c_fill (d : Nat) {I : PIm} {a n : Nat} {v : Int} (ha : Γ[a]? = some (.inr (0, n))) (hn : n ≤ 1000) : PC sc mJ7_fill_53178 d 0 0 [.inr (some a), .inl v] Γ I R (fun vv Γ' I' R' => vv = none ∧ Γ' = Γ ∧ R' = R ∧ (∀ q z, q ≠ a → I' q z = I q z) ∧ ∀ k : Int, 0 ≤ k → k < n → I' a k = v) := by
  have loop : ∀ (N k : Nat) (I2 : PIm), n - k = N → k ≤ n → (∀ q z, q ≠ a → I2 q z = I q z) → (∀ j : Int, 0 ≤ j → j < k → I2 a j = v) → PW sc mJ7_fill_53178 d 0 0 (fun vv Γ' I' R' => vv = none ∧ Γ' = Γ ∧ R' = R ∧ (∀ q z, q ≠ a → I' q z = I q z) ∧ ∀ k : Int, 0 ≤ k → k < n → I' a k = v) 5 [some (.inr (some a)), some (.inl v), some (.inl (k : Int)), some (.inl (n : Int))] [] Γ I2 R := by
    intro N
    induction N using Nat.strongRecOn with
    | _ N ih =>
      intro k I2 hN hk e1 e2
      by_cases hlt : k < n
      · refine PW.iload_n (pc := 5) dJ7_fill_53178_5 rfl ?_
        refine PW.iload_n (pc := 6) dJ7_fill_53178_6 rfl ?_
        refine PW.icmp_ge (pc := 7) (tgt := 20) dJ7_fill_53178_7 (by decide) (by first | omega | exact rg_of _) (by first | omega | exact rg_of _) (fun c_7 => ?_) (fun c_7 => ?_)
        · omega
        · refine PW.aload_n (pc := 10) dJ7_fill_53178_10 rfl ?_
          refine PW.iload_n (pc := 11) dJ7_fill_53178_11 rfl ?_
          refine PW.iload_n (pc := 12) dJ7_fill_53178_12 rfl ?_
          refine PW.iast (pc := 13) dJ7_fill_53178_13 (by first | assumption | rfl) (by omega) (by omega) (by omega) ?_
          refine PW.iinc (pc := 14) dJ7_fill_53178_14 rfl (by decide) ?_
          refine PW.goto (pc := 17) (tgt := 5) dJ7_fill_53178_17 (by decide) ?_
          exact ih (n - (k + 1)) (by omega) (k + 1) _ rfl (by omega) (fun q z hq => by rw [pw_up_other (by omega), e1 q z hq]) (fun j j0 j1 => by by_cases q : j = (k : Int); (· rw [q, pw_up_self]); (· rw [pw_up_other (by omega), e2 j j0 (by omega)]))
      · obtain rfl : k = n := by omega
        refine PW.iload_n (pc := 5) dJ7_fill_53178_5 rfl ?_
        refine PW.iload_n (pc := 6) dJ7_fill_53178_6 rfl ?_
        refine PW.icmp_ge (pc := 7) (tgt := 20) dJ7_fill_53178_7 (by decide) (by first | omega | exact rg_of _) (by first | omega | exact rg_of _) (fun c_7 => ?_) (fun c_7 => ?_)
        · exact PW.vreturn (pc := 20) dJ7_fill_53178_20 rfl (⟨rfl, rfl, rfl, e1, e2⟩)
        · omega
  refine PC.ofPW (by decide) (Nat.le_of_ble_eq_true rfl) ?_
  refine PW.iconst (pc := 0) dJ7_fill_53178_0 ?_
  refine PW.istore_n (pc := 1) dJ7_fill_53178_1 (by decide) ?_
  refine PW.aload_n (pc := 2) dJ7_fill_53178_2 rfl ?_
  refine PW.alen (pc := 3) dJ7_fill_53178_3 (by first | assumption | rfl) ?_
  refine PW.istore_n (pc := 4) dJ7_fill_53178_4 (by decide) ?_
  exact loop n 0 I (by omega) (by omega) (fun _ _ _ => rfl) (fun j j0 j1 => by omega)
/-! Closure: 0 root, 1 chain, 2 next, 3 size -/
def ClosAt (Γ : List PTy) (R : PRm) (c : Nat) : Prop := Γ[c]? = some (.inl 1) ∧ R c 0 = some (c + 1) ∧ R c 1 = some (c + 2) ∧ R c 2 = some (c + 3) ∧ Γ[c + 1]? = some (.inr (0, 116)) ∧ Γ[c + 2]? = some (.inr (0, 116)) ∧ Γ[c + 3]? = some (.inr (0, 116))
set_option maxRecDepth 100000 in
set_option maxHeartbeats 1000000 in
theorem RtOK.congr {rt rt' : Int → Int} {z : Int} (h : RtOK rt z) (he : ∀ i, 0 ≤ i → i < z → rt' i = rt i) : RtOK rt' z := by
  intro i i0 i1
  obtain ⟨a, b, c⟩ := h i i0 i1
  rw [he i i0 i1]
  exact ⟨a, b, by rw [he _ a b]; exact c⟩
set_option maxRecDepth 100000 in
set_option maxHeartbeats 1000000 in
theorem RtS.congr {rt rt' : Int → Int} {z : Int} {tb : Int → Tm} {C : Tm → Tm → Prop} (h : RtS rt z tb C) (he : ∀ i, 0 ≤ i → i < z → rt' i = rt i) : RtS rt' z tb C := fun i j i0 i1 j0 j1 e => h i j i0 i1 j0 j1 (by rw [← he i i0 i1, ← he j j0 j1]; exact e)
set_option maxRecDepth 100000 in
set_option maxHeartbeats 1000000 in
theorem RtR.congr {rt rt2 rt' : Int → Int} {z : Int} (h : RtR rt2 rt z) (he : ∀ i, 0 ≤ i → i < z → rt' i = rt i) : RtR rt2 rt' z := fun i j i0 i1 j0 j1 e => by rw [he i i0 i1, he j j0 j1]; exact h i j i0 i1 j0 j1 e
set_option maxRecDepth 100000 in
set_option maxHeartbeats 1000000 in
theorem RtC.congr {rt rt' : Int → Int} {z : Int} {tb : Int → Tm} (h : RtC rt z tb) (he : ∀ i, 0 ≤ i → i < z → rt' i = rt i) : RtC rt' z tb := by
  refine ⟨fun i j l m i0 i1 j0 j1 l0 l1 m0 m1 e1 e2 e3 => ?_, fun i j l m l' m' i0 i1 j0 j1 l0 l1 m0 m1 l0' l1' m0' m1' e1 e2 e3 e4 => ?_⟩
  · rw [he l l0 l1, he m m0 m1] at e3
    rw [he i i0 i1, he j j0 j1]
    exact h.1 i j l m i0 i1 j0 j1 l0 l1 m0 m1 e1 e2 e3
  · rw [he l l0 l1, he m m0 m1] at e3
    rw [he l' l0' l1', he m' m0' m1'] at e4
    rw [he i i0 i1, he j j0 j1]
    exact h.2 i j l m l' m' i0 i1 j0 j1 l0 l1 m0 m1 l0' l1' m0' m1' e1 e2 e3 e4
/-- the roots have gone on: nothing parted, nothing joined but what must be -/
def Prog (rt rt' : Int → Int) (z : Int) (tb : Int → Tm) : Prop := RtOK rt' z ∧ RtR rt rt' z ∧ ∀ C, CCong (UT tb z) C → RtS rt z tb C → RtS rt' z tb C
set_option maxRecDepth 100000 in
set_option maxHeartbeats 1000000 in
theorem Prog.rf {rt : Int → Int} {z : Int} {tb : Int → Tm} (h : RtOK rt z) : Prog rt rt z tb := ⟨h, RtR.rf _ _, fun _ _ q => q⟩
set_option maxRecDepth 100000 in
set_option maxHeartbeats 1000000 in
theorem Prog.tr {a b c : Int → Int} {z : Int} {tb : Int → Tm} (h : Prog a b z tb) (h' : Prog b c z tb) : Prog a c z tb := ⟨h'.1, h.2.1.tr h'.2.1, fun C q s => h'.2.2 C q (h.2.2 C q s)⟩
set_option maxRecDepth 100000 in
set_option maxHeartbeats 1000000 in
theorem Prog.congr {rt rt1 rt' : Int → Int} {z : Int} {tb : Int → Tm} (h : Prog rt1 rt z tb) (he : ∀ i, 0 ≤ i → i < z → rt' i = rt i) : Prog rt1 rt' z tb := ⟨h.1.congr he, h.2.1.congr he, fun C q s => (h.2.2 C q s).congr he⟩
set_option maxRecDepth 100000 in
set_option maxHeartbeats 1000000 in
theorem Prog.mrg {rt : Int → Int} {z a b : Int} {tb : Int → Tm} (h : RtOK rt z) (a0 : 0 ≤ a) (a1 : a < z) (b0 : 0 ≤ b) (b1 : b < z) (hab : ∀ C, CCong (UT tb z) C → RtS rt z tb C → C (tb a) (tb b)) : Prog rt (mrg rt a b) z tb := ⟨mrg_ok h a0 a1 b0 b1, mrg_r rt z a b, fun C q s => mrg_s q s a0 a1 b0 b1 (hab C q s)⟩
set_option maxRecDepth 100000 in
set_option maxHeartbeats 1000000 in
theorem c_X1_rootOf (d : Nat) {I : PIm} {c : Nat} {a : Int} (K : ClosAt Γ R c) (hz : I c 3 ≤ 116) (ha : 0 ≤ a ∧ a < I c 3) : PC sc mX1_rootOf d 0 0 [.inr (some c), .inl a] Γ I R (px (some (.inl (I (c + 1) a))) Γ I R) := by
  obtain ⟨k0, k1, k2, k3, k4, k5, k6⟩ := id K
  refine PC.ofPW (by decide) (Nat.le_of_ble_eq_true rfl) ?_
  refine PW.iload_n (pc := 0) dX1_rootOf_0 rfl ?_
  refine PW.if_lt (pc := 1) (tgt := 27) dX1_rootOf_1 (by decide) (by first | omega | exact rg_of _) (fun c_1 => ?_) (fun c_1 => ?_)
  · omega
  · refine PW.iload_n (pc := 4) dX1_rootOf_4 rfl ?_
    refine PW.aload_n (pc := 5) dX1_rootOf_5 rfl ?_
    refine PW.geti (pc := 6) dX1_rootOf_6 fl_X1_39 (by decide) (by first | assumption | rfl) ?_
    refine PW.icmp_ge (pc := 9) (tgt := 27) dX1_rootOf_9 (by decide) (by first | omega | exact rg_of _) (by first | omega | exact rg_of _) (fun c_9 => ?_) (fun c_9 => ?_)
    · omega
    · refine PW.iload_n (pc := 12) dX1_rootOf_12 rfl ?_
      refine PW.bipush (pc := 13) dX1_rootOf_13 (by decide) ?_
      refine PW.icmp_ge (pc := 15) (tgt := 27) dX1_rootOf_15 (by decide) (by first | omega | exact rg_of _) (by first | omega | exact rg_of _) (fun c_15 => ?_) (fun c_15 => ?_)
      · omega
      · refine PW.aload_n (pc := 18) dX1_rootOf_18 rfl ?_
        refine PW.getr (pc := 19) dX1_rootOf_19 fl_X1_9 (by first | assumption | rfl) (by first | assumption | rfl) ?_
        refine PW.iload_n (pc := 22) dX1_rootOf_22 rfl ?_
        refine PW.iald (pc := 23) dX1_rootOf_23 (by first | assumption | rfl) (by omega) (by omega) (by omega) ?_
        refine PW.goto (pc := 24) (tgt := 28) dX1_rootOf_24 (by decide) ?_
        exact PW.ireturn (pc := 28) dX1_rootOf_28 rfl (px_rfl)
set_option maxRecDepth 100000 in
set_option maxHeartbeats 1000000 in
theorem c_X1_same (d : Nat) {I : PIm} {c : Nat} {a b : Int} (K : ClosAt Γ R c) (hz : I c 3 ≤ 116) (hr : ∀ i, 0 ≤ i → i < I c 3 → 0 ≤ I (c + 1) i ∧ I (c + 1) i < I c 3) (ha : 0 ≤ a ∧ a < I c 3) (hb : 0 ≤ b ∧ b < I c 3) : PC sc mX1_same (d + 1) 0 0 [.inr (some c), .inl a, .inl b] Γ I R (px (some (.inl (bi (I (c + 1) a = I (c + 1) b)))) Γ I R) := by
  have k0 := K.1
  have ra := hr a ha.1 ha.2
  have rb := hr b hb.1 hb.2
  refine PC.ofPW (by decide) (Nat.le_of_ble_eq_true rfl) ?_
  refine PW.aload_n (pc := 0) dX1_same_0 rfl ?_
  refine PW.iload_n (pc := 1) dX1_same_1 rfl ?_
  refine PW.invV0x (pc := 2) dX1_same_2 mv_X1_62 (c_X1_rootOf d K hz ha) (by first | assumption | rfl) rfl rfl (Nat.le_of_ble_eq_true rfl) ?_
  refine PW.istore_n (pc := 5) dX1_same_5 (by decide) ?_
  refine PW.iload_n (pc := 6) dX1_same_6 rfl ?_
  refine PW.iconst (pc := 7) dX1_same_7 ?_
  refine PW.icmp_eq (pc := 8) (tgt := 24) dX1_same_8 (by decide) (by first | omega | exact rg_of _) (by first | omega | exact rg_of _) (fun c_8 => ?_) (fun c_8 => ?_)
  · omega
  · refine PW.iload_n (pc := 11) dX1_same_11 rfl ?_
    refine PW.aload_n (pc := 12) dX1_same_12 rfl ?_
    refine PW.iload_n (pc := 13) dX1_same_13 rfl ?_
    refine PW.invV0x (pc := 14) dX1_same_14 mv_X1_62 (c_X1_rootOf d K hz hb) (by first | assumption | rfl) rfl rfl (Nat.le_of_ble_eq_true rfl) ?_
    refine PW.icmp_ne (pc := 17) (tgt := 24) dX1_same_17 (by decide) (by first | omega | exact rg_of _) (by first | omega | exact rg_of _) (fun c_17 => ?_) (fun c_17 => ?_)
    · refine PW.iconst (pc := 24) dX1_same_24 ?_
      exact PW.zreturn (pc := 25) dX1_same_25 rfl (by first | exact Or.inl rfl | exact Or.inr rfl | omega) (by first | exact pxb_pos (by omega) | exact pxb_neg (by omega))
    · refine PW.iconst (pc := 20) dX1_same_20 ?_
      refine PW.goto (pc := 21) (tgt := 25) dX1_same_21 (by decide) ?_
      exact PW.zreturn (pc := 25) dX1_same_25 rfl (by first | exact Or.inl rfl | exact Or.inr rfl | omega) (by first | exact pxb_pos (by omega) | exact pxb_neg (by omega))
set_option maxRecDepth 100000 in
set_option maxHeartbeats 1000000 in
theorem c_X1_merge (d : Nat) {I : PIm} {c : Nat} {a b : Int} (K : ClosAt Γ R c) (hz : I c 3 ≤ 116) (hr : RtOK (I (c + 1)) (I c 3)) (ha : 0 ≤ a ∧ a < I c 3) (hb : 0 ≤ b ∧ b < I c 3) : PC sc mX1_merge (d + 1) 0 0 [.inr (some c), .inl a, .inl b] Γ I R (fun v Γ' I' R' => v = none ∧ Γ' = Γ ∧ R' = R ∧ (∀ q z, q ≠ c + 1 → I' q z = I q z) ∧ ∀ i, 0 ≤ i → i < I c 3 → I' (c + 1) i = mrg (I (c + 1)) a b i) := by
  obtain ⟨k0, k1, k2, k3, k4, k5, k6⟩ := id K
  have ra := hr a ha.1 ha.2
  have rb := hr b hb.1 hb.2
  have loop : ∀ (N : Nat) (k : Int) (I2 : PIm), (I c 3 - k).toNat = N → 0 ≤ k → k ≤ I c 3 → (∀ q z, q ≠ c + 1 → I2 q z = I q z) → (∀ i, 0 ≤ i → i < k → I2 (c + 1) i = mrg (I (c + 1)) a b i) → (∀ i, k ≤ i → i < I c 3 → I2 (c + 1) i = I (c + 1) i) → PW sc mX1_merge (d + 1) 0 0 (fun v Γ' I' R' => v = none ∧ Γ' = Γ ∧ R' = R ∧ (∀ q z, q ≠ c + 1 → I' q z = I q z) ∧ ∀ i, 0 ≤ i → i < I c 3 → I' (c + 1) i = mrg (I (c + 1)) a b i) 40 [some (.inr (some c)), some (.inl a), some (.inl b), some (.inl (I (c + 1) a)), some (.inl (I (c + 1) b)), some (.inl 1), some (.inl k)] [] Γ I2 R := by
    intro N
    induction N using Nat.strongRecOn with
    | _ N ih =>
      intro k I2 hN k0' k1' e1 e2 e3
      have ez : I2 c 3 = I c 3 := e1 c 3 (by omega)
      by_cases hlt : k < I c 3
      · have ek := e3 k (by omega) hlt
        have rk := hr k k0' hlt
        by_cases hq : I (c + 1) k = I (c + 1) b
        · have em : mrg (I (c + 1)) a b k = I (c + 1) a := if_pos hq
          refine PW.iload (pc := 40) dX1_merge_40 rfl ?_
          refine PW.aload_n (pc := 42) dX1_merge_42 rfl ?_
          refine PW.geti (pc := 43) dX1_merge_43 fl_X1_39 (by decide) (by first | assumption | rfl) ?_
          rw [ez]
          refine PW.icmp_ge (pc := 46) (tgt := 87) dX1_merge_46 (by decide) (by first | omega | exact rg_of _) (by first | omega | exact rg_of _) (fun c_46 => ?_) (fun c_46 => ?_)
          · omega
          · refine PW.iload (pc := 49) dX1_merge_49 rfl ?_
            refine PW.bipush (pc := 51) dX1_merge_51 (by decide) ?_
            refine PW.icmp_ge (pc := 53) (tgt := 87) dX1_merge_53 (by decide) (by first | omega | exact rg_of _) (by first | omega | exact rg_of _) (fun c_53 => ?_) (fun c_53 => ?_)
            · omega
            · refine PW.iload (pc := 56) dX1_merge_56 rfl ?_
              refine PW.if_eq (pc := 58) (tgt := 87) dX1_merge_58 (by decide) (by first | omega | exact rg_of _) (fun c_58 => ?_) (fun c_58 => ?_)
              · omega
              · refine PW.aload_n (pc := 61) dX1_merge_61 rfl ?_
                refine PW.getr (pc := 62) dX1_merge_62 fl_X1_9 (by first | assumption | rfl) (by first | assumption | rfl) ?_
                refine PW.iload (pc := 65) dX1_merge_65 rfl ?_
                refine PW.iald (pc := 67) dX1_merge_67 (by first | assumption | rfl) (by omega) (by omega) (by omega) ?_
                refine PW.iload (pc := 68) dX1_merge_68 rfl ?_
                rw [ek]
                refine PW.icmp_ne (pc := 70) (tgt := 81) dX1_merge_70 (by decide) (by first | omega | exact rg_of _) (by first | omega | exact rg_of _) (fun c_70 => ?_) (fun c_70 => ?_)
                · omega
                · refine PW.aload_n (pc := 73) dX1_merge_73 rfl ?_
                  refine PW.getr (pc := 74) dX1_merge_74 fl_X1_9 (by first | assumption | rfl) (by first | assumption | rfl) ?_
                  refine PW.iload (pc := 77) dX1_merge_77 rfl ?_
                  refine PW.iload_n (pc := 79) dX1_merge_79 rfl ?_
                  refine PW.iast (pc := 80) dX1_merge_80 (by first | assumption | rfl) (by omega) (by omega) (by omega) ?_
                  refine PW.iinc (pc := 81) dX1_merge_81 rfl (by decide) ?_
                  refine PW.goto (pc := 84) (tgt := 40) dX1_merge_84 (by decide) ?_
                  exact ih _ (by omega) (k + 1) _ rfl (by omega) (by omega) (fun q z hq => by rw [pw_up_other (by omega), e1 q z hq]) (fun i i0 i1 => by by_cases q : i = k; (· rw [q, pw_up_self, em]); (· rw [pw_up_other (by omega), e2 i i0 (by omega)])) (fun i i0 i1 => by rw [pw_up_other (by omega), e3 i (by omega) i1])
        · have em : mrg (I (c + 1)) a b k = I (c + 1) k := if_neg hq
          refine PW.iload (pc := 40) dX1_merge_40 rfl ?_
          refine PW.aload_n (pc := 42) dX1_merge_42 rfl ?_
          refine PW.geti (pc := 43) dX1_merge_43 fl_X1_39 (by decide) (by first | assumption | rfl) ?_
          rw [ez]
          refine PW.icmp_ge (pc := 46) (tgt := 87) dX1_merge_46 (by decide) (by first | omega | exact rg_of _) (by first | omega | exact rg_of _) (fun c_46 => ?_) (fun c_46 => ?_)
          · omega
          · refine PW.iload (pc := 49) dX1_merge_49 rfl ?_
            refine PW.bipush (pc := 51) dX1_merge_51 (by decide) ?_
            refine PW.icmp_ge (pc := 53) (tgt := 87) dX1_merge_53 (by decide) (by first | omega | exact rg_of _) (by first | omega | exact rg_of _) (fun c_53 => ?_) (fun c_53 => ?_)
            · omega
            · refine PW.iload (pc := 56) dX1_merge_56 rfl ?_
              refine PW.if_eq (pc := 58) (tgt := 87) dX1_merge_58 (by decide) (by first | omega | exact rg_of _) (fun c_58 => ?_) (fun c_58 => ?_)
              · omega
              · refine PW.aload_n (pc := 61) dX1_merge_61 rfl ?_
                refine PW.getr (pc := 62) dX1_merge_62 fl_X1_9 (by first | assumption | rfl) (by first | assumption | rfl) ?_
                refine PW.iload (pc := 65) dX1_merge_65 rfl ?_
                refine PW.iald (pc := 67) dX1_merge_67 (by first | assumption | rfl) (by omega) (by omega) (by omega) ?_
                refine PW.iload (pc := 68) dX1_merge_68 rfl ?_
                rw [ek]
                refine PW.icmp_ne (pc := 70) (tgt := 81) dX1_merge_70 (by decide) (by first | omega | exact rg_of _) (by first | omega | exact rg_of _) (fun c_70 => ?_) (fun c_70 => ?_)
                · refine PW.iinc (pc := 81) dX1_merge_81 rfl (by decide) ?_
                  refine PW.goto (pc := 84) (tgt := 40) dX1_merge_84 (by decide) ?_
                  exact ih _ (by omega) (k + 1) _ rfl (by omega) (by omega) e1 (fun i i0 i1 => by by_cases q : i = k; (· rw [q, ek, em]); (· rw [e2 i i0 (by omega)])) (fun i i0 i1 => by rw [e3 i (by omega) i1])
                · omega
      · obtain rfl : k = I c 3 := by omega
        refine PW.iload (pc := 40) dX1_merge_40 rfl ?_
        refine PW.aload_n (pc := 42) dX1_merge_42 rfl ?_
        refine PW.geti (pc := 43) dX1_merge_43 fl_X1_39 (by decide) (by first | assumption | rfl) ?_
        rw [ez]
        refine PW.icmp_ge (pc := 46) (tgt := 87) dX1_merge_46 (by decide) (by first | omega | exact rg_of _) (by first | omega | exact rg_of _) (fun c_46 => ?_) (fun c_46 => ?_)
        · exact PW.vreturn (pc := 87) dX1_merge_87 rfl (⟨rfl, rfl, rfl, e1, e2⟩)
        · omega
  refine PC.ofPW (by decide) (Nat.le_of_ble_eq_true rfl) ?_
  by_cases hab : I (c + 1) a = I (c + 1) b
  · refine PW.aload_n (pc := 0) dX1_merge_0 rfl ?_
    refine PW.iload_n (pc := 1) dX1_merge_1 rfl ?_
    refine PW.invV0x (pc := 2) dX1_merge_2 mv_X1_62 (c_X1_rootOf d K hz ha) (by first | assumption | rfl) rfl rfl (Nat.le_of_ble_eq_true rfl) ?_
    refine PW.istore_n (pc := 5) dX1_merge_5 (by decide) ?_
    refine PW.aload_n (pc := 6) dX1_merge_6 rfl ?_
    refine PW.iload_n (pc := 7) dX1_merge_7 rfl ?_
    refine PW.invV0x (pc := 8) dX1_merge_8 mv_X1_62 (c_X1_rootOf d K hz hb) (by first | assumption | rfl) rfl rfl (Nat.le_of_ble_eq_true rfl) ?_
    refine PW.istore (pc := 11) dX1_merge_11 (by decide) ?_
    refine PW.iload_n (pc := 13) dX1_merge_13 rfl ?_
    refine PW.iload (pc := 14) dX1_merge_14 rfl ?_
    refine PW.icmp_eq (pc := 16) (tgt := 34) dX1_merge_16 (by decide) (by first | omega | exact rg_of _) (by first | omega | exact rg_of _) (fun c_16 => ?_) (fun c_16 => ?_)
    · refine PW.iconst (pc := 34) dX1_merge_34 ?_
      refine PW.istore (pc := 35) dX1_merge_35 (by decide) ?_
      refine PW.iconst (pc := 37) dX1_merge_37 ?_
      refine PW.istore (pc := 38) dX1_merge_38 (by decide) ?_
      refine PW.iload (pc := 40) dX1_merge_40 rfl ?_
      refine PW.aload_n (pc := 42) dX1_merge_42 rfl ?_
      refine PW.geti (pc := 43) dX1_merge_43 fl_X1_39 (by decide) (by first | assumption | rfl) ?_
      refine PW.icmp_ge (pc := 46) (tgt := 87) dX1_merge_46 (by decide) (by first | omega | exact rg_of _) (by first | omega | exact rg_of _) (fun c_46 => ?_) (fun c_46 => ?_)
      · exact PW.vreturn (pc := 87) dX1_merge_87 rfl (⟨rfl, rfl, rfl, fun _ _ _ => rfl, fun i i0 i1 => by unfold mrg; split <;> omega⟩)
      · refine PW.iload (pc := 49) dX1_merge_49 rfl ?_
        refine PW.bipush (pc := 51) dX1_merge_51 (by decide) ?_
        refine PW.icmp_ge (pc := 53) (tgt := 87) dX1_merge_53 (by decide) (by first | omega | exact rg_of _) (by first | omega | exact rg_of _) (fun c_53 => ?_) (fun c_53 => ?_)
        · exact PW.vreturn (pc := 87) dX1_merge_87 rfl (⟨rfl, rfl, rfl, fun _ _ _ => rfl, fun i i0 i1 => by unfold mrg; split <;> omega⟩)
        · refine PW.iload (pc := 56) dX1_merge_56 rfl ?_
          refine PW.if_eq (pc := 58) (tgt := 87) dX1_merge_58 (by decide) (by first | omega | exact rg_of _) (fun c_58 => ?_) (fun c_58 => ?_)
          · exact PW.vreturn (pc := 87) dX1_merge_87 rfl (⟨rfl, rfl, rfl, fun _ _ _ => rfl, fun i i0 i1 => by unfold mrg; split <;> omega⟩)
          · omega
    · exact absurd hab c_16
  · refine PW.aload_n (pc := 0) dX1_merge_0 rfl ?_
    refine PW.iload_n (pc := 1) dX1_merge_1 rfl ?_
    refine PW.invV0x (pc := 2) dX1_merge_2 mv_X1_62 (c_X1_rootOf d K hz ha) (by first | assumption | rfl) rfl rfl (Nat.le_of_ble_eq_true rfl) ?_
    refine PW.istore_n (pc := 5) dX1_merge_5 (by decide) ?_
    refine PW.aload_n (pc := 6) dX1_merge_6 rfl ?_
    refine PW.iload_n (pc := 7) dX1_merge_7 rfl ?_
    refine PW.invV0x (pc := 8) dX1_merge_8 mv_X1_62 (c_X1_rootOf d K hz hb) (by first | assumption | rfl) rfl rfl (Nat.le_of_ble_eq_true rfl) ?_
    refine PW.istore (pc := 11) dX1_merge_11 (by decide) ?_
    refine PW.iload_n (pc := 13) dX1_merge_13 rfl ?_
    refine PW.iload (pc := 14) dX1_merge_14 rfl ?_
    refine PW.icmp_eq (pc := 16) (tgt := 34) dX1_merge_16 (by decide) (by first | omega | exact rg_of _) (by first | omega | exact rg_of _) (fun c_16 => ?_) (fun c_16 => ?_)
    · exact absurd c_16 hab
    · refine PW.iload_n (pc := 19) dX1_merge_19 rfl ?_
      refine PW.iconst (pc := 20) dX1_merge_20 ?_
      refine PW.icmp_eq (pc := 21) (tgt := 34) dX1_merge_21 (by decide) (by first | omega | exact rg_of _) (by first | omega | exact rg_of _) (fun c_21 => ?_) (fun c_21 => ?_)
      · omega
      · refine PW.iload (pc := 24) dX1_merge_24 rfl ?_
        refine PW.iconst (pc := 26) dX1_merge_26 ?_
        refine PW.icmp_eq (pc := 27) (tgt := 34) dX1_merge_27 (by decide) (by first | omega | exact rg_of _) (by first | omega | exact rg_of _) (fun c_27 => ?_) (fun c_27 => ?_)
        · omega
        · refine PW.iconst (pc := 30) dX1_merge_30 ?_
          refine PW.goto (pc := 31) (tgt := 35) dX1_merge_31 (by decide) ?_
          refine PW.istore (pc := 35) dX1_merge_35 (by decide) ?_
          refine PW.iconst (pc := 37) dX1_merge_37 ?_
          refine PW.istore (pc := 38) dX1_merge_38 (by decide) ?_
          exact loop _ 0 I rfl (by omega) (by omega) (fun _ _ _ => rfl) (fun i i0 i1 => by omega) (fun _ _ _ => rfl)
def isCh (nx : Int → Int) : Int → List Int → Prop
  | a, [] => a = -1
  | a, e :: l => a = e ∧ isCh nx (nx e) l
set_option maxRecDepth 100000 in
set_option maxHeartbeats 1000000 in
theorem isCh.congr {nx nx' : Int → Int} : ∀ (l : List Int) (a : Int), isCh nx a l → (∀ e ∈ l, nx' e = nx e) → isCh nx' a l
  | [], a, h, _ => h
  | e :: l, a, h, he => ⟨h.1, by rw [he e List.mem_cons_self]; exact isCh.congr l _ h.2 (fun x hx => he x (List.mem_cons_of_mem _ hx))⟩
abbrev mtch (hd rg rt : Int → Int) (m i : Int) : Prop := hd m = hd i ∧ rt (rg m) = rt (rg i)
set_option maxRecDepth 100000 in
set_option maxHeartbeats 1000000 in
theorem c_X1_findMatch (d : Nat) {I : PIm} {c h N0 : Nat} {tb : Int → Tm} {i a : Int} {l : List Int} (K : ClosAt Γ R c) (hT : I h 5 = I c 3) (T : TermsAt Γ R h N0) (TB : Tab I h (I c 3) tb) (hN : I c 3 ≤ N0) (hz : I c 3 ≤ 116) (hr : RtOK (I (c + 1)) (I c 3)) (hi : 0 ≤ i ∧ i < I c 3) (hl : isCh (I (c + 3)) a l) (hle : ∀ e ∈ l, 0 ≤ e ∧ e < I c 3) (hln : (l.length : Int) ≤ I c 3) :
    PC sc mX1_findMatch (d + 2) 0 0 [.inr (some c), .inr (some h), .inl i, .inl a] Γ I R (fun v Γ' I' R' => Γ' = Γ ∧ I' = I ∧ R' = R ∧ ((∃ m ∈ l, v = some (.inl m) ∧ mtch (I (h + 1)) (I (h + 3)) (I (c + 1)) m i) ∨ (v = some (.inl (-1)) ∧ ∀ m ∈ l, ¬ mtch (I (h + 1)) (I (h + 3)) (I (c + 1)) m i))) := by
  obtain ⟨k0, k1, k2, k3, k4, k5, k6⟩ := id K
  have t0 := T.1
  have hdi := TB.hd hi.1 hi.2
  have rri := hr _ hdi.2.2.1 (by omega)
  have loop : ∀ (l2 : List Int) (a2 n : Int), isCh (I (c + 3)) a2 l2 → (∀ e ∈ l2, e ∈ l) → 0 ≤ n → n + l2.length ≤ I c 3 → (∀ m ∈ l, ¬ mtch (I (h + 1)) (I (h + 3)) (I (c + 1)) m i ∨ m ∈ l2) → PW sc mX1_findMatch (d + 2) 0 0 (fun v Γ' I' R' => Γ' = Γ ∧ I' = I ∧ R' = R ∧ ((∃ m ∈ l, v = some (.inl m) ∧ mtch (I (h + 1)) (I (h + 3)) (I (c + 1)) m i) ∨ (v = some (.inl (-1)) ∧ ∀ m ∈ l, ¬ mtch (I (h + 1)) (I (h + 3)) (I (c + 1)) m i))) 24 [some (.inr (some c)), some (.inr (some h)), some (.inl i), some (.inl a), some (.inl (I (h + 1) i)), some (.inl (I (c + 1) (I (h + 3) i))), some (.inl a2), some (.inl n)] [] Γ I R := by
    intro l2
    induction l2 with
    | nil =>
      intro a2 n hch hin n0 n1 hno
      obtain rfl : a2 = -1 := hch
      have hno' : ∀ m ∈ l, ¬ mtch (I (h + 1)) (I (h + 3)) (I (c + 1)) m i := fun m hm => (hno m hm).resolve_right (List.not_mem_nil)
      refine PW.iload (pc := 24) dX1_findMatch_24 rfl ?_
      refine PW.aload_n (pc := 26) dX1_findMatch_26 rfl ?_
      refine PW.geti (pc := 27) dX1_findMatch_27 fl_X1_39 (by decide) (by first | assumption | rfl) ?_
      refine PW.icmp_ge (pc := 30) (tgt := 89) dX1_findMatch_30 (by decide) (by first | omega | exact rg_of _) (by first | omega | exact rg_of _) (fun c_30 => ?_) (fun c_30 => ?_)
      · refine PW.iconst (pc := 89) dX1_findMatch_89 ?_
        exact PW.ireturn (pc := 90) dX1_findMatch_90 rfl (⟨rfl, rfl, rfl, Or.inr ⟨rfl, hno'⟩⟩)
      · refine PW.iload (pc := 33) dX1_findMatch_33 rfl ?_
        refine PW.if_lt (pc := 35) (tgt := 89) dX1_findMatch_35 (by decide) (by first | omega | exact rg_of _) (fun c_35 => ?_) (fun c_35 => ?_)
        · refine PW.iconst (pc := 89) dX1_findMatch_89 ?_
          exact PW.ireturn (pc := 90) dX1_findMatch_90 rfl (⟨rfl, rfl, rfl, Or.inr ⟨rfl, hno'⟩⟩)
        · omega
    | cons e l2 ih =>
      intro a2 n hch hin n0 n1 hno
      obtain ⟨rfl, hch2⟩ := hch
      have hel := hin a2 List.mem_cons_self
      have he := hle a2 hel
      have hde := TB.hd he.1 he.2
      have rre := hr _ hde.2.2.1 (by omega)
      rw [List.length_cons] at n1
      have next : ¬ mtch (I (h + 1)) (I (h + 3)) (I (c + 1)) a2 i → PW sc mX1_findMatch (d + 2) 0 0 (fun v Γ' I' R' => Γ' = Γ ∧ I' = I ∧ R' = R ∧ ((∃ m ∈ l, v = some (.inl m) ∧ mtch (I (h + 1)) (I (h + 3)) (I (c + 1)) m i) ∨ (v = some (.inl (-1)) ∧ ∀ m ∈ l, ¬ mtch (I (h + 1)) (I (h + 3)) (I (c + 1)) m i))) 74 [some (.inr (some c)), some (.inr (some h)), some (.inl i), some (.inl a), some (.inl (I (h + 1) i)), some (.inl (I (c + 1) (I (h + 3) i))), some (.inl a2), some (.inl n)] [] Γ I R := by
        intro hne
        refine PW.aload_n (pc := 74) dX1_findMatch_74 rfl ?_
        refine PW.getr (pc := 75) dX1_findMatch_75 fl_X1_18 (by first | assumption | rfl) (by first | assumption | rfl) ?_
        refine PW.iload (pc := 78) dX1_findMatch_78 rfl ?_
        refine PW.iald (pc := 80) dX1_findMatch_80 (by first | assumption | rfl) (by omega) (by omega) (by omega) ?_
        refine PW.istore (pc := 81) dX1_findMatch_81 (by decide) ?_
        refine PW.iinc (pc := 83) dX1_findMatch_83 rfl (by decide) ?_
        refine PW.goto (pc := 86) (tgt := 24) dX1_findMatch_86 (by decide) ?_
        exact ih _ (n + 1) hch2 (fun x hx => hin x (List.mem_cons_of_mem _ hx)) (by omega) (by omega) (fun m hm => (hno m hm).elim Or.inl (fun q => (List.mem_cons.mp q).elim (fun q => Or.inl (by rw [q]; exact hne)) Or.inr))
      refine PW.iload (pc := 24) dX1_findMatch_24 rfl ?_
      refine PW.aload_n (pc := 26) dX1_findMatch_26 rfl ?_
      refine PW.geti (pc := 27) dX1_findMatch_27 fl_X1_39 (by decide) (by first | assumption | rfl) ?_
      refine PW.icmp_ge (pc := 30) (tgt := 89) dX1_findMatch_30 (by decide) (by first | omega | exact rg_of _) (by first | omega | exact rg_of _) (fun c_30 => ?_) (fun c_30 => ?_)
      · omega
      · refine PW.iload (pc := 33) dX1_findMatch_33 rfl ?_
        refine PW.if_lt (pc := 35) (tgt := 89) dX1_findMatch_35 (by decide) (by first | omega | exact rg_of _) (fun c_35 => ?_) (fun c_35 => ?_)
        · omega
        · refine PW.iload (pc := 38) dX1_findMatch_38 rfl ?_
          refine PW.bipush (pc := 40) dX1_findMatch_40 (by decide) ?_
          refine PW.icmp_ge (pc := 42) (tgt := 89) dX1_findMatch_42 (by decide) (by first | omega | exact rg_of _) (by first | omega | exact rg_of _) (fun c_42 => ?_) (fun c_42 => ?_)
          · omega
          · refine PW.aload_n (pc := 45) dX1_findMatch_45 rfl ?_
            refine PW.iload (pc := 46) dX1_findMatch_46 rfl ?_
            refine PW.invV0x (pc := 48) dX1_findMatch_48 mv_X1_86 (c_X8_headOf d T (by omega) he.1 (by omega)) (by first | assumption | rfl) rfl rfl (Nat.le_of_ble_eq_true rfl) ?_
            refine PW.iload (pc := 51) dX1_findMatch_51 rfl ?_
            refine PW.icmp_ne (pc := 53) (tgt := 74) dX1_findMatch_53 (by decide) (by first | omega | exact rg_of _) (by first | omega | exact rg_of _) (fun c_53 => ?_) (fun c_53 => ?_)
            · exact next (by omega)
            · refine PW.aload_n (pc := 56) dX1_findMatch_56 rfl ?_
              refine PW.aload_n (pc := 57) dX1_findMatch_57 rfl ?_
              refine PW.iload (pc := 58) dX1_findMatch_58 rfl ?_
              refine PW.invV0x (pc := 60) dX1_findMatch_60 mv_X1_89 (c_X8_rightOf d T (by omega) he.1 (by omega)) (by first | assumption | rfl) rfl rfl (Nat.le_of_ble_eq_true rfl) ?_
              refine PW.invV0x (pc := 63) dX1_findMatch_63 mv_X1_62 (c_X1_rootOf (d + 1) K hz (by omega)) (by first | assumption | rfl) rfl rfl (Nat.le_of_ble_eq_true rfl) ?_
              refine PW.iload (pc := 66) dX1_findMatch_66 rfl ?_
              refine PW.icmp_ne (pc := 68) (tgt := 74) dX1_findMatch_68 (by decide) (by first | omega | exact rg_of _) (by first | omega | exact rg_of _) (fun c_68 => ?_) (fun c_68 => ?_)
              · exact next (by omega)
              · refine PW.iload (pc := 71) dX1_findMatch_71 rfl ?_
                exact PW.ireturn (pc := 73) dX1_findMatch_73 rfl (⟨rfl, rfl, rfl, Or.inl ⟨a2, hel, rfl, by omega⟩⟩)
  refine PC.ofPW (by decide) (Nat.le_of_ble_eq_true rfl) ?_
  refine PW.aload_n (pc := 0) dX1_findMatch_0 rfl ?_
  refine PW.iload_n (pc := 1) dX1_findMatch_1 rfl ?_
  refine PW.invV0x (pc := 2) dX1_findMatch_2 mv_X1_86 (c_X8_headOf d T (by omega) hi.1 (by omega)) (by first | assumption | rfl) rfl rfl (Nat.le_of_ble_eq_true rfl) ?_
  refine PW.istore (pc := 5) dX1_findMatch_5 (by decide) ?_
  refine PW.aload_n (pc := 7) dX1_findMatch_7 rfl ?_
  refine PW.aload_n (pc := 8) dX1_findMatch_8 rfl ?_
  refine PW.iload_n (pc := 9) dX1_findMatch_9 rfl ?_
  refine PW.invV0x (pc := 10) dX1_findMatch_10 mv_X1_89 (c_X8_rightOf d T (by omega) hi.1 (by omega)) (by first | assumption | rfl) rfl rfl (Nat.le_of_ble_eq_true rfl) ?_
  refine PW.invV0x (pc := 13) dX1_findMatch_13 mv_X1_62 (c_X1_rootOf (d + 1) K hz (by omega)) (by first | assumption | rfl) rfl rfl (Nat.le_of_ble_eq_true rfl) ?_
  refine PW.istore (pc := 16) dX1_findMatch_16 (by decide) ?_
  refine PW.iload_n (pc := 18) dX1_findMatch_18 rfl ?_
  refine PW.istore (pc := 19) dX1_findMatch_19 (by decide) ?_
  refine PW.iconst (pc := 21) dX1_findMatch_21 ?_
  refine PW.istore (pc := 22) dX1_findMatch_22 (by decide) ?_
  exact loop l a 0 hl (fun _ h => h) (by omega) (by omega) (fun m hm => Or.inr hm)
end CLOSURE
