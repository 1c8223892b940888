section MTERM
variable {sc : PSc} {Γ : List PTy} {R : PRm}
def sgn (h : Int) : Int := if h < 4 then 97 + h else if h = 4 then 102 else 103
set_option maxRecDepth 100000 in
set_option maxHeartbeats 1000000 in
theorem lp_part (d : Nat) {I0 : PIm} {post : PPost} {z tm k : Int} {tb : Int → Tm} (M : MAt Γ R) (T : MTab I0 z tb) (hz : z ≤ 200) (hk : Rg k) : ∀ (N : Nat) (t p n : Int) (I : PIm) (o5 : Option PV), t.toNat = N → 0 ≤ t → t < z → 0 ≤ p → p + dep (tb t) ≤ 38 → 0 ≤ n → n ≤ k → n + siz (tb t) ≤ 1000000 → (∀ q, q ≠ 125 → I q = I0 q) → I 125 p = t → (k < n + siz (tb t) → ∀ (i : Int) (I2 : PIm), 0 ≤ i → i < z → sgn (I0 122 i) = ltr (tb t) (k - n) → (∀ q, q ≠ 125 → I2 q = I0 q) → post (some (.inl i)) Γ I2 R) → (n + siz (tb t) ≤ k → ∀ (I2 : PIm) (o5 : Option PV), (∀ q, q ≠ 125 → I2 q = I0 q) → (∀ j, j < p → I2 125 j = I 125 j) → PW sc mX11_partOf d 0 0 post 12 [some (.inr (some 112)), some (.inl tm), some (.inl k), some (.inl p), some (.inl (n + siz (tb t))), o5] [] Γ I2 R) → PW sc mX11_partOf d 0 0 post 12 [some (.inr (some 112)), some (.inl tm), some (.inl k), some (.inl (p + 1)), some (.inl n), o5] [] Γ I R := by
  intro N
  induction N using Nat.strongRecOn with
  | _ N ih =>
    intro t p n I o5 hN t0 t1 p0 pd n0 nk sz fr e125 HR K
    have dn := dep_nonneg (tb t)
    have sp := siz_pos (tb t)
    have ep : p + 1 + -1 = p := by omega
    have h122 : I 122 t = I0 122 t := by rw [fr 122 (by omega)]
    have h123 : I 123 t = I0 123 t := by rw [fr 123 (by omega)]
    have h124 : I 124 t = I0 124 t := by rw [fr 124 (by omega)]
    by_cases q : n = k
    · have hit : sgn (I0 122 t) = ltr (tb t) (k - n) := by
        rw [show k - n = 0 by omega]
        unfold sgn
        rcases T.kind t0 t1 with ⟨k1, k2, k3⟩ | ⟨k1, k2, k3⟩ | ⟨k1, k2, k3, k4⟩
        · rw [k1, if_pos k2, k3, ltr_0c t0]
        · rw [k1, if_neg (by omega), if_pos rfl, k3, ltr_0f]
        · rw [k1, if_neg (by omega), if_neg (by omega), k4, ltr_0g]
      refine PW.iload_n (pc := 12) dX11_partOf_12 rfl ?_
      refine PW.if_le (pc := 13) (tgt := 96) dX11_partOf_13 (by decide) (by first | omega | exact rg_of _) (fun c_13 => ?_) (fun c_13 => ?_)
      · omega
      · refine PW.iinc (pc := 16) dX11_partOf_16 rfl (by decide) ?_
        rw [ep]
        refine PW.aload_n (pc := 19) dX11_partOf_19 rfl ?_
        refine PW.getr (pc := 20) dX11_partOf_20 fl_X11_47 M.g112 M.r18 ?_
        refine PW.iload_n (pc := 23) dX11_partOf_23 rfl ?_
        refine PW.iald (pc := 24) dX11_partOf_24 M.g125 (by omega) (by omega) (by omega) ?_
        rw [e125]
        refine PW.istore (pc := 25) dX11_partOf_25 (by decide) ?_
        refine PW.iload (pc := 27) dX11_partOf_27 rfl ?_
        refine PW.iload_n (pc := 29) dX11_partOf_29 rfl ?_
        refine PW.icmp_ne (pc := 30) (tgt := 36) dX11_partOf_30 (by decide) (by first | omega | exact rg_of _) (by first | omega | exact rg_of _) (fun c_30 => ?_) (fun c_30 => ?_)
        · exact absurd q c_30
        · refine PW.iload (pc := 33) dX11_partOf_33 rfl ?_
          exact PW.ireturn (pc := 35) dX11_partOf_35 rfl (HR (by omega) t I t0 t1 hit fr)
    · have rest : PW sc mX11_partOf d 0 0 post 39 [some (.inr (some 112)), some (.inl tm), some (.inl k), some (.inl p), some (.inl (n + 1)), some (.inl t)] [] Γ I R := by
        rcases T.kind t0 t1 with ⟨k1, k2, k3⟩ | ⟨k1, k2, k3⟩ | ⟨k1, k2, k3, k4⟩
        · rw [k3, siz_tc] at K
          have nx := K (by omega) I (some (.inl t)) fr (fun _ _ => rfl)
          refine PW.aload_n (pc := 39) dX11_partOf_39 rfl ?_
          refine PW.getr (pc := 40) dX11_partOf_40 fl_X11_38 M.g112 M.r15 ?_
          refine PW.iload (pc := 43) dX11_partOf_43 rfl ?_
          refine PW.iald (pc := 45) dX11_partOf_45 M.g122 (by omega) (by omega) (by omega) ?_
          rw [h122, k1]
          refine PW.iconst (pc := 46) dX11_partOf_46 ?_
          refine PW.icmp_ne (pc := 47) (tgt := 66) dX11_partOf_47 (by decide) (by first | omega | exact rg_of _) (by first | omega | exact rg_of _) (fun c_47 => ?_) (fun c_47 => ?_)
          · refine PW.aload_n (pc := 66) dX11_partOf_66 rfl ?_
            refine PW.getr (pc := 67) dX11_partOf_67 fl_X11_38 M.g112 M.r15 ?_
            refine PW.iload (pc := 70) dX11_partOf_70 rfl ?_
            refine PW.iald (pc := 72) dX11_partOf_72 M.g122 (by omega) (by omega) (by omega) ?_
            rw [h122, k1]
            refine PW.iconst (pc := 73) dX11_partOf_73 ?_
            refine PW.icmp_lt (pc := 74) (tgt := 93) dX11_partOf_74 (by decide) (by first | omega | exact rg_of _) (by first | omega | exact rg_of _) (fun c_74 => ?_) (fun c_74 => ?_)
            · refine PW.goto (pc := 93) (tgt := 12) dX11_partOf_93 (by decide) ?_
              exact nx
            · omega
          · omega
        · rw [k3, siz_tf] at K sz HR
          rw [k3, dep_tf] at pd
          have dl := dep_nonneg (tb (I0 123 t))
          have nx := ih (I0 123 t).toNat (by omega) (I0 123 t) p (n + 1) (pw_up I 125 p (I0 123 t)) (some (.inl t)) rfl k2.1 (by omega) p0 (by omega) (by omega) (by omega) (by omega) (fun q a => by rw [pw_up_ne q a, fr q a]) (by rw [pw_up_self]) (fun hk2 i I2 i0 i1 hs hf => HR (by omega) i I2 i0 i1 (by rw [hs, ltr_tf (by omega) (by rw [siz_tf]; omega), show k - n - 1 = k - (n + 1) by omega]) hf) (fun hk2 I2 o5 f1 f2 => by
            have r := K (by omega) I2 o5 f1 (fun j hj => by rw [f2 j hj, pw_up_other (by omega)])
            rw [show n + (1 + siz (tb (I0 123 t))) = n + 1 + siz (tb (I0 123 t)) by omega] at r
            exact r)
          refine PW.aload_n (pc := 39) dX11_partOf_39 rfl ?_
          refine PW.getr (pc := 40) dX11_partOf_40 fl_X11_38 M.g112 M.r15 ?_
          refine PW.iload (pc := 43) dX11_partOf_43 rfl ?_
          refine PW.iald (pc := 45) dX11_partOf_45 M.g122 (by omega) (by omega) (by omega) ?_
          rw [h122, k1]
          refine PW.iconst (pc := 46) dX11_partOf_46 ?_
          refine PW.icmp_ne (pc := 47) (tgt := 66) dX11_partOf_47 (by decide) (by first | omega | exact rg_of _) (by first | omega | exact rg_of _) (fun c_47 => ?_) (fun c_47 => ?_)
          · refine PW.aload_n (pc := 66) dX11_partOf_66 rfl ?_
            refine PW.getr (pc := 67) dX11_partOf_67 fl_X11_38 M.g112 M.r15 ?_
            refine PW.iload (pc := 70) dX11_partOf_70 rfl ?_
            refine PW.iald (pc := 72) dX11_partOf_72 M.g122 (by omega) (by omega) (by omega) ?_
            rw [h122, k1]
            refine PW.iconst (pc := 73) dX11_partOf_73 ?_
            refine PW.icmp_lt (pc := 74) (tgt := 93) dX11_partOf_74 (by decide) (by first | omega | exact rg_of _) (by first | omega | exact rg_of _) (fun c_74 => ?_) (fun c_74 => ?_)
            · omega
            · refine PW.aload_n (pc := 77) dX11_partOf_77 rfl ?_
              refine PW.getr (pc := 78) dX11_partOf_78 fl_X11_47 M.g112 M.r18 ?_
              refine PW.iload_n (pc := 81) dX11_partOf_81 rfl ?_
              refine PW.aload_n (pc := 82) dX11_partOf_82 rfl ?_
              refine PW.getr (pc := 83) dX11_partOf_83 fl_X11_41 M.g112 M.r16 ?_
              refine PW.iload (pc := 86) dX11_partOf_86 rfl ?_
              refine PW.iald (pc := 88) dX11_partOf_88 M.g123 (by omega) (by omega) (by omega) ?_
              rw [h123]
              refine PW.iast (pc := 89) dX11_partOf_89 M.g125 (by omega) (by omega) (by omega) ?_
              refine PW.iinc (pc := 90) dX11_partOf_90 rfl (by decide) ?_
              refine PW.goto (pc := 93) (tgt := 12) dX11_partOf_93 (by decide) ?_
              exact nx
          · omega
        · rw [k4, siz_tg] at K sz HR
          rw [k4, dep_tg] at pd
          have dl := dep_nonneg (tb (I0 123 t))
          have dr := dep_nonneg (tb (I0 124 t))
          have g122 : pw_up I 125 p (I0 124 t) 122 t = 5 := by rw [pw_up_other (by omega), h122, k1]
          have g123 : pw_up I 125 p (I0 124 t) 123 t = I0 123 t := by rw [pw_up_other (by omega), h123]
          have sl := siz_pos (tb (I0 123 t))
          have sr := siz_pos (tb (I0 124 t))
          have nx := ih (I0 123 t).toNat (by omega) (I0 123 t) (p + 1) (n + 1) (pw_up (pw_up I 125 p (I0 124 t)) 125 (p + 1) (I0 123 t)) (some (.inl t)) rfl k2.1 (by omega) (by omega) (by omega) (by omega) (by omega) (by omega) (fun q a => by rw [pw_up_ne q a, pw_up_ne q a, fr q a]) (by rw [pw_up_self]) (fun hk2 i I2 i0 i1 hs hf => HR (by omega) i I2 i0 i1 (by rw [hs, ltr_tg1 (by omega) (by omega), show k - n - 1 = k - (n + 1) by omega]) hf) (fun hk2 I2 o5 f1 f2 => ih (I0 124 t).toNat (by omega) (I0 124 t) p (n + 1 + siz (tb (I0 123 t))) I2 o5 rfl k3.1 (by omega) p0 (by omega) (by omega) (by omega) (by omega) f1 (by rw [f2 p (by omega), pw_up_other (by omega), pw_up_self]) (fun hk3 i I3 i0 i1 hs hf => HR (by omega) i I3 i0 i1 (by rw [hs, ltr_tg2 (by omega) (by rw [siz_tg]; omega), show k - n - 1 - siz (tb (I0 123 t)) = k - (n + 1 + siz (tb (I0 123 t))) by omega]) hf) (fun hk3 I3 o5 f3 f4 => by
            have r := K (by omega) I3 o5 f3 (fun j hj => by rw [f4 j hj, f2 j (by omega), pw_up_other (by omega), pw_up_other (by omega)])
            rw [show n + (1 + siz (tb (I0 123 t)) + siz (tb (I0 124 t))) = n + 1 + siz (tb (I0 123 t)) + siz (tb (I0 124 t)) by omega] at r
            exact r))
          refine PW.aload_n (pc := 39) dX11_partOf_39 rfl ?_
          refine PW.getr (pc := 40) dX11_partOf_40 fl_X11_38 M.g112 M.r15 ?_
          refine PW.iload (pc := 43) dX11_partOf_43 rfl ?_
          refine PW.iald (pc := 45) dX11_partOf_45 M.g122 (by omega) (by omega) (by omega) ?_
          rw [h122, k1]
          refine PW.iconst (pc := 46) dX11_partOf_46 ?_
          refine PW.icmp_ne (pc := 47) (tgt := 66) dX11_partOf_47 (by decide) (by first | omega | exact rg_of _) (by first | omega | exact rg_of _) (fun c_47 => ?_) (fun c_47 => ?_)
          · omega
          · refine PW.aload_n (pc := 50) dX11_partOf_50 rfl ?_
            refine PW.getr (pc := 51) dX11_partOf_51 fl_X11_47 M.g112 M.r18 ?_
            refine PW.iload_n (pc := 54) dX11_partOf_54 rfl ?_
            refine PW.aload_n (pc := 55) dX11_partOf_55 rfl ?_
            refine PW.getr (pc := 56) dX11_partOf_56 fl_X11_44 M.g112 M.r17 ?_
            refine PW.iload (pc := 59) dX11_partOf_59 rfl ?_
            refine PW.iald (pc := 61) dX11_partOf_61 M.g124 (by omega) (by omega) (by omega) ?_
            rw [h124]
            refine PW.iast (pc := 62) dX11_partOf_62 M.g125 (by omega) (by omega) (by omega) ?_
            refine PW.iinc (pc := 63) dX11_partOf_63 rfl (by decide) ?_
            refine PW.aload_n (pc := 66) dX11_partOf_66 rfl ?_
            refine PW.getr (pc := 67) dX11_partOf_67 fl_X11_38 M.g112 M.r15 ?_
            refine PW.iload (pc := 70) dX11_partOf_70 rfl ?_
            refine PW.iald (pc := 72) dX11_partOf_72 M.g122 (by omega) (by omega) (by omega) ?_
            rw [g122]
            refine PW.iconst (pc := 73) dX11_partOf_73 ?_
            refine PW.icmp_lt (pc := 74) (tgt := 93) dX11_partOf_74 (by decide) (by first | omega | exact rg_of _) (by first | omega | exact rg_of _) (fun c_74 => ?_) (fun c_74 => ?_)
            · omega
            · refine PW.aload_n (pc := 77) dX11_partOf_77 rfl ?_
              refine PW.getr (pc := 78) dX11_partOf_78 fl_X11_47 M.g112 M.r18 ?_
              refine PW.iload_n (pc := 81) dX11_partOf_81 rfl ?_
              refine PW.aload_n (pc := 82) dX11_partOf_82 rfl ?_
              refine PW.getr (pc := 83) dX11_partOf_83 fl_X11_41 M.g112 M.r16 ?_
              refine PW.iload (pc := 86) dX11_partOf_86 rfl ?_
              refine PW.iald (pc := 88) dX11_partOf_88 M.g123 (by omega) (by omega) (by omega) ?_
              rw [g123]
              refine PW.iast (pc := 89) dX11_partOf_89 M.g125 (by omega) (by omega) (by omega) ?_
              refine PW.iinc (pc := 90) dX11_partOf_90 rfl (by decide) ?_
              refine PW.goto (pc := 93) (tgt := 12) dX11_partOf_93 (by decide) ?_
              exact nx
      refine PW.iload_n (pc := 12) dX11_partOf_12 rfl ?_
      refine PW.if_le (pc := 13) (tgt := 96) dX11_partOf_13 (by decide) (by first | omega | exact rg_of _) (fun c_13 => ?_) (fun c_13 => ?_)
      · omega
      · refine PW.iinc (pc := 16) dX11_partOf_16 rfl (by decide) ?_
        rw [ep]
        refine PW.aload_n (pc := 19) dX11_partOf_19 rfl ?_
        refine PW.getr (pc := 20) dX11_partOf_20 fl_X11_47 M.g112 M.r18 ?_
        refine PW.iload_n (pc := 23) dX11_partOf_23 rfl ?_
        refine PW.iald (pc := 24) dX11_partOf_24 M.g125 (by omega) (by omega) (by omega) ?_
        rw [e125]
        refine PW.istore (pc := 25) dX11_partOf_25 (by decide) ?_
        refine PW.iload (pc := 27) dX11_partOf_27 rfl ?_
        refine PW.iload_n (pc := 29) dX11_partOf_29 rfl ?_
        refine PW.icmp_ne (pc := 30) (tgt := 36) dX11_partOf_30 (by decide) (by first | omega | exact rg_of _) (by first | omega | exact rg_of _) (fun c_30 => ?_) (fun c_30 => ?_)
        · refine PW.iinc (pc := 36) dX11_partOf_36 rfl (by decide) ?_
          exact rest
        · exact absurd c_30 q
set_option maxRecDepth 100000 in
set_option maxHeartbeats 1000000 in
theorem c_X11_partOf (d : Nat) {I : PIm} {z t k : Int} {tb : Int → Tm} (M : MAt Γ R) (T : MTab I z tb) (hz : z ≤ 200) (t0 : 0 ≤ t) (t1 : t < z) (hd : dep (tb t) ≤ 30) (hs : siz (tb t) ≤ 1000000) (hk : Rg k) (k0 : 0 ≤ k) : PC sc mX11_partOf d 0 0 [.inr (some 112), .inl t, .inl k] Γ I R (fun v Γ' I' R' => Γ' = Γ ∧ R' = R ∧ (∀ q, q ≠ 125 → I' q = I q) ∧ ∃ i, v = some (.inl i) ∧ ((i = -9 ∧ ltr (tb t) k = -9) ∨ (0 ≤ i ∧ i < z ∧ sgn (I 122 i) = ltr (tb t) k))) := by
  have dn := dep_nonneg (tb t)
  have fin : siz (tb t) ≤ k → ∀ (I2 : PIm) (o5 : Option PV), (∀ q, q ≠ 125 → I2 q = I q) → PW sc mX11_partOf d 0 0 (fun v Γ' I' R' => Γ' = Γ ∧ R' = R ∧ (∀ q, q ≠ 125 → I' q = I q) ∧ ∃ i, v = some (.inl i) ∧ ((i = -9 ∧ ltr (tb t) k = -9) ∨ (0 ≤ i ∧ i < z ∧ sgn (I 122 i) = ltr (tb t) k))) 12 [some (.inr (some 112)), some (.inl t), some (.inl k), some (.inl 0), some (.inl (0 + siz (tb t))), o5] [] Γ I2 R := by
    intro hsk I2 o5 f1
    refine PW.iload_n (pc := 12) dX11_partOf_12 rfl ?_
    refine PW.if_le (pc := 13) (tgt := 96) dX11_partOf_13 (by decide) (by first | omega | exact rg_of _) (fun c_13 => ?_) (fun c_13 => ?_)
    · refine PW.bipush (pc := 96) dX11_partOf_96 (by decide) ?_
      exact PW.ireturn (pc := 98) dX11_partOf_98 rfl (⟨rfl, rfl, f1, -9, rfl, Or.inl ⟨rfl, ltr_out (by omega)⟩⟩)
    · omega
  have L := lp_part (sc := sc) (Γ := Γ) (R := R) d (I0 := I) (tm := t) (post := fun v Γ' I' R' => Γ' = Γ ∧ R' = R ∧ (∀ q, q ≠ 125 → I' q = I q) ∧ ∃ i, v = some (.inl i) ∧ ((i = -9 ∧ ltr (tb t) k = -9) ∨ (0 ≤ i ∧ i < z ∧ sgn (I 122 i) = ltr (tb t) k))) M T hz hk _ t 0 0 (pw_up I 125 0 t) none rfl t0 t1 (by omega) (by omega) (by omega) k0 (by omega) (fun q a => by rw [pw_up_ne q a]) (by rw [pw_up_self]) (fun _ i I2 i0 i1 hs2 hf => ⟨rfl, rfl, hf, i, rfl, Or.inr ⟨i0, i1, by rw [hs2, show k - 0 = k by omega]⟩⟩) (fun hsk I2 o5 f1 _ => fin (by omega) I2 o5 f1)
  refine PC.ofPW (by decide) (Nat.le_of_ble_eq_true rfl) ?_
  refine PW.iconst (pc := 0) dX11_partOf_0 ?_
  refine PW.istore_n (pc := 1) dX11_partOf_1 (by decide) ?_
  refine PW.iconst (pc := 2) dX11_partOf_2 ?_
  refine PW.istore (pc := 3) dX11_partOf_3 (by decide) ?_
  refine PW.aload_n (pc := 5) dX11_partOf_5 rfl ?_
  refine PW.getr (pc := 6) dX11_partOf_6 fl_X11_47 M.g112 M.r18 ?_
  refine PW.iconst (pc := 9) dX11_partOf_9 ?_
  refine PW.iload_n (pc := 10) dX11_partOf_10 rfl ?_
  refine PW.iast (pc := 11) dX11_partOf_11 M.g125 (by omega) (by omega) (by omega) ?_
  exact L
set_option maxRecDepth 100000 in
set_option maxHeartbeats 1000000 in
theorem MVal.c125 {s : CS} {I I' : PIm} (h : MVal s I) (y : ∀ q, q ≠ 125 → q ≠ 126 → I' q = I q) : MVal s I' := h.cg (fun k _ => by rw [y 112 (by omega) (by omega)]) (fun q g => y q (by omega) (by omega)) (fun q a b k _ _ => by rw [y q (by omega) (by omega)])
set_option maxRecDepth 100000 in
set_option maxHeartbeats 1000000 in
theorem MRun.reg {I I' : PIm} {tb tb' : Int → Tm} {v : SV} (rn : MRun I I' tb tb' (vP v) (vl v) (vf v) (vw v) (vn v)) {r w : Int} (r0 : 0 ≤ r) (r1 : r ≤ 3) (hw : 0 ≤ w ∧ w ≤ 1) : 0 ≤ I' 140 (r + 4 * w) ∧ I' 140 (r + 4 * w) < I' 112 13 ∧ tb' (I' 140 (r + 4 * w)) = regT v r (w = 1) := by
  obtain ⟨a, b⟩ := rn.2.2.2.2.1 r r0 (by omega)
  unfold regT
  rcases (show w = 0 ∨ w = 1 by omega) with rfl | rfl
  · rw [if_neg (by omega), show r + 4 * 0 = r by omega]; exact a
  · rw [if_pos rfl, show r + 4 * 1 = r + 4 by omega]; exact b
set_option maxRecDepth 100000 in
set_option maxHeartbeats 1000000 in
theorem q_deep (d : Nat) {I : PIm} {s : CS} {r w : Int} (M : MAt Γ R) (h : MVal s I) (hr : Rg r) (hw : Rg w) : PC sc mX11_deep (d + 8) 0 0 [.inr (some 112), .inl r, .inl w] Γ I R (MPo Γ I R (sp_deep s r w) s) := by
  have h1 := h.thr
  have z1 : ∀ q, q < 112 → pw_up I 112 0 0 q = I q := fun q g => pw_up_ne q (by omega)
  generalize hI1 : pw_up I 112 0 0 = I1 at h1 z1
  obtain ⟨vT, ⟨tb, vF⟩, ⟨vN, vNo⟩, vH, vI, vS⟩ := id h1
  obtain ⟨n1, n2, n25, n26, n27, n28⟩ := id vN
  obtain ⟨vNok, vNoF⟩ := id vNo
  have PM := vN.prog vNok
  have o1 : vn (cNow s) ≤ 6 := vNok.1
  have o3 : 0 ≤ vl (cNow s) ∧ vl (cNow s) ≤ 3 := vNok.2.2.1
  have o4 : 0 ≤ vf (cNow s) ∧ vf (cNow s) ≤ 7 := vNok.2.2.2.1
  have o5 : 0 ≤ vw (cNow s) ∧ vw (cNow s) ≤ 1 := vNok.2.2.2.2.1
  have o6 : 0 ≤ vi (cNow s) ∧ vi (cNow s) < 64 := vNok.2.2.2.2.2
  unfold sp_deep
  have C1 := c_X11_isRegister (sc := sc) (Γ := Γ) (R := R) (I := I1) (d + 6) hr
  have C3 := c_X11_in (sc := sc) (Γ := Γ) (R := R) (I := I1) (d + 7) (v := w) (a := 0) (b := 1) hw (by omega) (by omega)
  refine PC.ofPW (by decide) (Nat.le_of_ble_eq_true rfl) ?_
  by_cases g : (0 ≤ r ∧ r ≤ 3) ∧ (0 ≤ w ∧ w ≤ 1)
  · rw [if_pos g]
    have RN := c_X11_runsNow (sc := sc) (Γ := Γ) (R := R) d M PM n26 o3 n27 n28 (by omega) vF.2.1 vF.2.2.1
    have dg_ := dep_reg (cNow s) r (w = 1)
    have f104 := vF.2.2.1
    refine PW.aload_n (pc := 0) dX11_deep_0 rfl ?_
    refine PW.iconst (pc := 1) dX11_deep_1 ?_
    refine PW.puti (pc := 2) dX11_deep_2 fl_X11_104 M.g112 ?_
    rw [hI1]
    refine PW.iload_n (pc := 5) dX11_deep_5 rfl ?_
    refine PW.invS0x (pc := 6) dX11_deep_6 ms_X11_226 (C1) rfl rfl (Nat.le_of_ble_eq_true rfl) ?_
    refine PW.if_eq (pc := 9) (tgt := 21) dX11_deep_9 (by decide) (rg_bi _) (fun c_9 => ?_) (fun c_9 => ?_)
    · exact absurd g.1 (bi0 c_9)
    · refine PW.iload_n (pc := 12) dX11_deep_12 rfl ?_
      refine PW.iconst (pc := 13) dX11_deep_13 ?_
      refine PW.iconst (pc := 14) dX11_deep_14 ?_
      refine PW.invS0x (pc := 15) dX11_deep_15 ms_X11_122 (C3) rfl rfl (Nat.le_of_ble_eq_true rfl) ?_
      refine PW.if_ne (pc := 18) (tgt := 23) dX11_deep_18 (by decide) (rg_bi _) (fun c_18 => ?_) (fun c_18 => ?_)
      · refine PW.aload_n (pc := 23) dX11_deep_23 rfl ?_
        refine PW.invV0 (pc := 24) dX11_deep_24 mv_X11_229 (RN) M.g112 rfl rfl (Nat.le_of_ble_eq_true rfl) ?_
        (rintro v Γ' I' R' ⟨rfl, rfl, rfl, tb', rn⟩)
        obtain ⟨a1, a2, a3⟩ := rn.reg g.1.1 g.1.2 g.2
        have rz := rn.2.1
        have V2 := h1.run vF rn
        rw [← a3] at dg_ ⊢
        refine PW.aload_n (pc := 27) dX11_deep_27 rfl ?_
        refine PW.aload_n (pc := 28) dX11_deep_28 rfl ?_
        refine PW.getr (pc := 29) dX11_deep_29 fl_X11_92 M.g112 M.r39 ?_
        refine PW.iload_n (pc := 32) dX11_deep_32 rfl ?_
        refine PW.iconst (pc := 33) dX11_deep_33 ?_
        refine PW.iload_n (pc := 34) dX11_deep_34 rfl ?_
        refine PW.imul (pc := 35) dX11_deep_35 ?_
        refine PW.iadd (pc := 36) dX11_deep_36 ?_
        refine PW.iald (pc := 37) dX11_deep_37 M.g140 (by omega) (by omega) (by omega) ?_
        refine PW.invV0 (pc := 38) dX11_deep_38 mv_X11_232 (c_X11_depth _ M rn.1 (by omega) a1 a2 (by omega)) M.g112 rfl rfl (Nat.le_of_ble_eq_true rfl) ?_
        (rintro v Γ' I2 R' ⟨rfl, rfl, rfl, y⟩)
        exact PW.ireturn (pc := 41) dX11_deep_41 rfl (MPo.of (fun q g => by rw [y q (by omega) (by omega), rn.lo q (by omega) (by omega), z1 q g]) (V2.c125 y))
      · exact absurd g.2 (bi0 c_18)
  · rw [if_neg g]
    refine PW.aload_n (pc := 0) dX11_deep_0 rfl ?_
    refine PW.iconst (pc := 1) dX11_deep_1 ?_
    refine PW.puti (pc := 2) dX11_deep_2 fl_X11_104 M.g112 ?_
    rw [hI1]
    refine PW.iload_n (pc := 5) dX11_deep_5 rfl ?_
    refine PW.invS0x (pc := 6) dX11_deep_6 ms_X11_226 (C1) rfl rfl (Nat.le_of_ble_eq_true rfl) ?_
    refine PW.if_eq (pc := 9) (tgt := 21) dX11_deep_9 (by decide) (rg_bi _) (fun c_9 => ?_) (fun c_9 => ?_)
    · refine PW.iconst (pc := 21) dX11_deep_21 ?_
      exact PW.ireturn (pc := 22) dX11_deep_22 rfl (MPo.of z1 h1)
    · refine PW.iload_n (pc := 12) dX11_deep_12 rfl ?_
      refine PW.iconst (pc := 13) dX11_deep_13 ?_
      refine PW.iconst (pc := 14) dX11_deep_14 ?_
      refine PW.invS0x (pc := 15) dX11_deep_15 ms_X11_122 (C3) rfl rfl (Nat.le_of_ble_eq_true rfl) ?_
      refine PW.if_ne (pc := 18) (tgt := 23) dX11_deep_18 (by decide) (rg_bi _) (fun c_18 => ?_) (fun c_18 => ?_)
      · exact absurd (And.intro (bi1 c_9) (bi1 c_18)) g
      · refine PW.iconst (pc := 21) dX11_deep_21 ?_
        exact PW.ireturn (pc := 22) dX11_deep_22 rfl (MPo.of z1 h1)
set_option maxRecDepth 100000 in
set_option maxHeartbeats 1000000 in
theorem q_term (d : Nat) {I : PIm} {s : CS} {r w k : Int} (M : MAt Γ R) (h : MVal s I) (hr : Rg r) (hw : Rg w) (hk : Rg k) : PC sc mX11_term (d + 8) 0 0 [.inr (some 112), .inl r, .inl w, .inl k] Γ I R (MPo Γ I R (sp_term s r w k) s) := by
  have h1 := h.thr
  have z1 : ∀ q, q < 112 → pw_up I 112 0 0 q = I q := fun q g => pw_up_ne q (by omega)
  generalize hI1 : pw_up I 112 0 0 = I1 at h1 z1
  obtain ⟨vT, ⟨tb, vF⟩, ⟨vN, vNo⟩, vH, vI, vS⟩ := id h1
  obtain ⟨n1, n2, n25, n26, n27, n28⟩ := id vN
  obtain ⟨vNok, vNoF⟩ := id vNo
  have PM := vN.prog vNok
  have o1 : vn (cNow s) ≤ 6 := vNok.1
  have o3 : 0 ≤ vl (cNow s) ∧ vl (cNow s) ≤ 3 := vNok.2.2.1
  have o4 : 0 ≤ vf (cNow s) ∧ vf (cNow s) ≤ 7 := vNok.2.2.2.1
  have o5 : 0 ≤ vw (cNow s) ∧ vw (cNow s) ≤ 1 := vNok.2.2.2.2.1
  have o6 : 0 ≤ vi (cNow s) ∧ vi (cNow s) < 64 := vNok.2.2.2.2.2
  unfold sp_term
  have C1 := c_X11_isRegister (sc := sc) (Γ := Γ) (R := R) (I := I1) (d + 6) hr
  have C3 := c_X11_in (sc := sc) (Γ := Γ) (R := R) (I := I1) (d + 7) (v := w) (a := 0) (b := 1) hw (by omega) (by omega)
  refine PC.ofPW (by decide) (Nat.le_of_ble_eq_true rfl) ?_
  by_cases g : (0 ≤ r ∧ r ≤ 3) ∧ (0 ≤ w ∧ w ≤ 1) ∧ 0 ≤ k
  · rw [if_pos g]
    have RN := c_X11_runsNow (sc := sc) (Γ := Γ) (R := R) d M PM n26 o3 n27 n28 (by omega) vF.2.1 vF.2.2.1
    have dg_ := dep_reg (cNow s) r (w = 1)
    have sz_ := siz_reg (v := cNow s) o1 r (w = 1)
    have f104 := vF.2.2.1
    have none_ : ∀ (I2 : PIm), MVal s I2 → (∀ q, q < 112 → I2 q = I q) → PW sc mX11_term (d + 8) 0 0 (MPo Γ I R (-9) s) 46 [some (.inr (some 112)), some (.inl r), some (.inl w), some (.inl k), none] [.inl (-9)] Γ I2 R := by
      intro I2 V3 lo3
      refine PW.istore (pc := 46) dX11_term_46 (by decide) ?_
      refine PW.iload (pc := 48) dX11_term_48 rfl ?_
      refine PW.bipush (pc := 50) dX11_term_50 (by decide) ?_
      refine PW.icmp_ne (pc := 52) (tgt := 60) dX11_term_52 (by decide) (by first | omega | exact rg_of _) (by first | omega | exact rg_of _) (fun c_52 => ?_) (fun c_52 => ?_)
      · omega
      · refine PW.bipush (pc := 55) dX11_term_55 (by decide) ?_
        refine PW.goto (pc := 57) (tgt := 102) dX11_term_57 (by decide) ?_
        exact PW.ireturn (pc := 102) dX11_term_102 rfl (MPo.of lo3 V3)
    have some_ : ∀ (I2 : PIm) (i hd_ : Int), MVal s I2 → (∀ q, q < 112 → I2 q = I q) → 0 ≤ i → i < 200 → I2 122 i = hd_ → (0 ≤ hd_ ∧ hd_ ≤ 5) → PW sc mX11_term (d + 8) 0 0 (MPo Γ I R (sgn hd_) s) 46 [some (.inr (some 112)), some (.inl r), some (.inl w), some (.inl k), none] [.inl i] Γ I2 R := by
      intro I2 i hd_ V3 lo3 i0 i1 eh h5
      have P : ∀ a, a = sgn hd_ → MPo Γ I R (sgn hd_) s (some (.inl a)) Γ I2 R := fun a e => by rw [e]; exact MPo.of lo3 V3
      refine PW.istore (pc := 46) dX11_term_46 (by decide) ?_
      refine PW.iload (pc := 48) dX11_term_48 rfl ?_
      refine PW.bipush (pc := 50) dX11_term_50 (by decide) ?_
      refine PW.icmp_ne (pc := 52) (tgt := 60) dX11_term_52 (by decide) (by first | omega | exact rg_of _) (by first | omega | exact rg_of _) (fun c_52 => ?_) (fun c_52 => ?_)
      · refine PW.aload_n (pc := 60) dX11_term_60 rfl ?_
        refine PW.getr (pc := 61) dX11_term_61 fl_X11_38 M.g112 M.r15 ?_
        refine PW.iload (pc := 64) dX11_term_64 rfl ?_
        refine PW.iald (pc := 66) dX11_term_66 M.g122 (by omega) (by omega) (by omega) ?_
        rw [eh]
        refine PW.iconst (pc := 67) dX11_term_67 ?_
        refine PW.icmp_ge (pc := 68) (tgt := 84) dX11_term_68 (by decide) (by first | omega | exact rg_of _) (by first | omega | exact rg_of _) (fun c_68 => ?_) (fun c_68 => ?_)
        · refine PW.aload_n (pc := 84) dX11_term_84 rfl ?_
          refine PW.getr (pc := 85) dX11_term_85 fl_X11_38 M.g112 M.r15 ?_
          refine PW.iload (pc := 88) dX11_term_88 rfl ?_
          refine PW.iald (pc := 90) dX11_term_90 M.g122 (by omega) (by omega) (by omega) ?_
          rw [eh]
          refine PW.iconst (pc := 91) dX11_term_91 ?_
          refine PW.icmp_ne (pc := 92) (tgt := 100) dX11_term_92 (by decide) (by first | omega | exact rg_of _) (by first | omega | exact rg_of _) (fun c_92 => ?_) (fun c_92 => ?_)
          · refine PW.bipush (pc := 100) dX11_term_100 (by decide) ?_
            exact PW.ireturn (pc := 102) dX11_term_102 rfl (by first | exact P _ (by unfold sgn; rw [if_pos (by omega)]) | exact P _ (by unfold sgn; rw [if_neg (by omega), if_pos (by omega)]) | exact P _ (by unfold sgn; rw [if_neg (by omega), if_neg (by omega)]))
          · refine PW.bipush (pc := 95) dX11_term_95 (by decide) ?_
            refine PW.goto (pc := 97) (tgt := 102) dX11_term_97 (by decide) ?_
            exact PW.ireturn (pc := 102) dX11_term_102 rfl (by first | exact P _ (by unfold sgn; rw [if_pos (by omega)]) | exact P _ (by unfold sgn; rw [if_neg (by omega), if_pos (by omega)]) | exact P _ (by unfold sgn; rw [if_neg (by omega), if_neg (by omega)]))
        · refine PW.bipush (pc := 71) dX11_term_71 (by decide) ?_
          refine PW.aload_n (pc := 73) dX11_term_73 rfl ?_
          refine PW.getr (pc := 74) dX11_term_74 fl_X11_38 M.g112 M.r15 ?_
          refine PW.iload (pc := 77) dX11_term_77 rfl ?_
          refine PW.iald (pc := 79) dX11_term_79 M.g122 (by omega) (by omega) (by omega) ?_
          rw [eh]
          refine PW.iadd (pc := 80) dX11_term_80 ?_
          refine PW.goto (pc := 81) (tgt := 102) dX11_term_81 (by decide) ?_
          exact PW.ireturn (pc := 102) dX11_term_102 rfl (by first | exact P _ (by unfold sgn; rw [if_pos (by omega)]) | exact P _ (by unfold sgn; rw [if_neg (by omega), if_pos (by omega)]) | exact P _ (by unfold sgn; rw [if_neg (by omega), if_neg (by omega)]))
      · omega
    refine PW.aload_n (pc := 0) dX11_term_0 rfl ?_
    refine PW.iconst (pc := 1) dX11_term_1 ?_
    refine PW.puti (pc := 2) dX11_term_2 fl_X11_104 M.g112 ?_
    rw [hI1]
    refine PW.iload_n (pc := 5) dX11_term_5 rfl ?_
    refine PW.invS0x (pc := 6) dX11_term_6 ms_X11_226 (C1) rfl rfl (Nat.le_of_ble_eq_true rfl) ?_
    refine PW.if_eq (pc := 9) (tgt := 25) dX11_term_9 (by decide) (rg_bi _) (fun c_9 => ?_) (fun c_9 => ?_)
    · exact absurd g.1 (bi0 c_9)
    · refine PW.iload_n (pc := 12) dX11_term_12 rfl ?_
      refine PW.iconst (pc := 13) dX11_term_13 ?_
      refine PW.iconst (pc := 14) dX11_term_14 ?_
      refine PW.invS0x (pc := 15) dX11_term_15 ms_X11_122 (C3) rfl rfl (Nat.le_of_ble_eq_true rfl) ?_
      refine PW.if_eq (pc := 18) (tgt := 25) dX11_term_18 (by decide) (rg_bi _) (fun c_18 => ?_) (fun c_18 => ?_)
      · exact absurd g.2.1 (bi0 c_18)
      · refine PW.iload_n (pc := 21) dX11_term_21 rfl ?_
        refine PW.if_ge (pc := 22) (tgt := 27) dX11_term_22 (by decide) (by first | omega | exact rg_of _) (fun c_22 => ?_) (fun c_22 => ?_)
        · refine PW.aload_n (pc := 27) dX11_term_27 rfl ?_
          refine PW.invV0 (pc := 28) dX11_term_28 mv_X11_229 (RN) M.g112 rfl rfl (Nat.le_of_ble_eq_true rfl) ?_
          (rintro v Γ' I' R' ⟨rfl, rfl, rfl, tb', rn⟩)
          obtain ⟨a1, a2, a3⟩ := rn.reg g.1.1 g.1.2 g.2.1
          have rz := rn.2.1
          have V2 := h1.run vF rn
          rw [← a3] at dg_ sz_ ⊢
          refine PW.aload_n (pc := 31) dX11_term_31 rfl ?_
          refine PW.aload_n (pc := 32) dX11_term_32 rfl ?_
          refine PW.getr (pc := 33) dX11_term_33 fl_X11_92 M.g112 M.r39 ?_
          refine PW.iload_n (pc := 36) dX11_term_36 rfl ?_
          refine PW.iconst (pc := 37) dX11_term_37 ?_
          refine PW.iload_n (pc := 38) dX11_term_38 rfl ?_
          refine PW.imul (pc := 39) dX11_term_39 ?_
          refine PW.iadd (pc := 40) dX11_term_40 ?_
          refine PW.iald (pc := 41) dX11_term_41 M.g140 (by omega) (by omega) (by omega) ?_
          refine PW.iload_n (pc := 42) dX11_term_42 rfl ?_
          refine PW.invV0 (pc := 43) dX11_term_43 mv_X11_236 (c_X11_partOf _ M rn.1 (by omega) a1 a2 (by omega) sz_ hk g.2.2) M.g112 rfl rfl (Nat.le_of_ble_eq_true rfl) ?_
          (rintro v Γ' I2 R' ⟨rfl, rfl, y, i, rfl, hi⟩)
          have V3 := V2.c125 (fun q a _ => y q a)
          have lo3 : ∀ q, q < 112 → I2 q = I q := fun q g => by rw [y q (by omega), rn.lo q (by omega) (by omega), z1 q g]
          have ri : Rg i := by rcases hi with ⟨e, -⟩ | ⟨e, e', -⟩ <;> omega
          rcases hi with ⟨rfl, el⟩ | ⟨i0, i1, el⟩
          · rw [el]; exact none_ I2 V3 lo3
          · rw [← el]; exact some_ I2 i (I' 122 i) V3 lo3 i0 (by omega) (by rw [y 122 (by omega)]) (by rcases rn.1.kind i0 i1 with w | w | w <;> omega)
        · omega
  · rw [if_neg g]
    refine PW.aload_n (pc := 0) dX11_term_0 rfl ?_
    refine PW.iconst (pc := 1) dX11_term_1 ?_
    refine PW.puti (pc := 2) dX11_term_2 fl_X11_104 M.g112 ?_
    rw [hI1]
    refine PW.iload_n (pc := 5) dX11_term_5 rfl ?_
    refine PW.invS0x (pc := 6) dX11_term_6 ms_X11_226 (C1) rfl rfl (Nat.le_of_ble_eq_true rfl) ?_
    refine PW.if_eq (pc := 9) (tgt := 25) dX11_term_9 (by decide) (rg_bi _) (fun c_9 => ?_) (fun c_9 => ?_)
    · refine PW.iconst (pc := 25) dX11_term_25 ?_
      exact PW.ireturn (pc := 26) dX11_term_26 rfl (MPo.of z1 h1)
    · refine PW.iload_n (pc := 12) dX11_term_12 rfl ?_
      refine PW.iconst (pc := 13) dX11_term_13 ?_
      refine PW.iconst (pc := 14) dX11_term_14 ?_
      refine PW.invS0x (pc := 15) dX11_term_15 ms_X11_122 (C3) rfl rfl (Nat.le_of_ble_eq_true rfl) ?_
      refine PW.if_eq (pc := 18) (tgt := 25) dX11_term_18 (by decide) (rg_bi _) (fun c_18 => ?_) (fun c_18 => ?_)
      · refine PW.iconst (pc := 25) dX11_term_25 ?_
        exact PW.ireturn (pc := 26) dX11_term_26 rfl (MPo.of z1 h1)
      · refine PW.iload_n (pc := 21) dX11_term_21 rfl ?_
        refine PW.if_ge (pc := 22) (tgt := 27) dX11_term_22 (by decide) (by first | omega | exact rg_of _) (fun c_22 => ?_) (fun c_22 => ?_)
        · exact absurd (And.intro (bi1 c_9) (And.intro (bi1 c_18) (by omega))) g
        · refine PW.iconst (pc := 25) dX11_term_25 ?_
          exact PW.ireturn (pc := 26) dX11_term_26 rfl (MPo.of z1 h1)
end MTERM
