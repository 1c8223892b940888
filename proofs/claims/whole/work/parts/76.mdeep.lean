section MDEEP
variable {sc : PSc} {Γ : List PTy} {R : PRm}
/-- below a place of the stack nothing changes -/
def StkFr (p : Int) (I I2 : PIm) : Prop := (∀ q, q ≠ 125 → q ≠ 126 → I2 q = I q) ∧ ∀ q k, k < p → I2 q k = I q k
set_option maxRecDepth 100000 in
set_option maxHeartbeats 1000000 in
theorem StkFr.rf (p : Int) (I : PIm) : StkFr p I I := ⟨fun _ _ _ => rfl, fun _ _ _ => rfl⟩
set_option maxRecDepth 100000 in
set_option maxHeartbeats 1000000 in
theorem MTab.kind {I : PIm} {z : Int} {tb : Int → Tm} (T : MTab I z tb) {i : Int} (i0 : 0 ≤ i) (i1 : i < z) : (I 122 i = i ∧ i < 4 ∧ tb i = tc i) ∨ (I 122 i = 4 ∧ (0 ≤ I 123 i ∧ I 123 i < i) ∧ tb i = tf (tb (I 123 i))) ∨ (I 122 i = 5 ∧ (0 ≤ I 123 i ∧ I 123 i < i) ∧ (0 ≤ I 124 i ∧ I 124 i < i) ∧ tb i = tg (tb (I 123 i)) (tb (I 124 i))) := by
  obtain ⟨u, v⟩ := T.2.1 i i0 i1
  by_cases q : i < 4
  · exact Or.inl ⟨(u q).1.1, q, (u q).2⟩
  · rcases v (by omega) with ⟨a, b, c⟩ | ⟨a, b, c, e⟩
    · exact Or.inr (Or.inl ⟨a.1, b, c⟩)
    · exact Or.inr (Or.inr ⟨a.1, b, c, e⟩)
set_option maxRecDepth 100000 in
set_option maxHeartbeats 1000000 in
theorem lp_depth (d : Nat) {I0 : PIm} {post : PPost} {z tm : Int} {tb : Int → Tm} (M : MAt Γ R) (T : MTab I0 z tb) (hz : z ≤ 200) : ∀ (N : Nat) (t p dd_ mo mo2 : Int) (I : PIm) (o2 o5 : Option PV), t.toNat = N → 0 ≤ t → t < z → 0 ≤ p → p + dep (tb t) ≤ 38 → 0 ≤ dd_ → dd_ + dep (tb t) ≤ 1000 → 0 ≤ mo → mo ≤ 1000 → (∀ q, q ≠ 125 → q ≠ 126 → I q = I0 q) → I 125 p = t → I 126 p = dd_ → mo2 = max mo (dd_ + dep (tb t)) → (∀ (I2 : PIm) (o2 o5 : Option PV), (∀ q, q ≠ 125 → q ≠ 126 → I2 q = I0 q) → (∀ q k, k < p → I2 q k = I q k) → PW sc mX11_depth d 0 0 post 21 [some (.inr (some 112)), some (.inl tm), o2, some (.inl mo2), some (.inl p), o5] [] Γ I2 R) → PW sc mX11_depth d 0 0 post 21 [some (.inr (some 112)), some (.inl tm), o2, some (.inl mo), some (.inl (p + 1)), o5] [] Γ I R := by
  intro N
  induction N using Nat.strongRecOn with
  | _ N ih =>
    intro t p dd_ mo mo2 I o2 o5 hN t0 t1 p0 pd d0 dm m0 m1 fr e125 e126 hmo K
    have dn := dep_nonneg (tb t)
    have ep : p + 1 + -1 = p := by omega
    have h122 : I 122 t = I0 122 t := by rw [fr 122 (by omega) (by omega)]
    have h123 : I 123 t = I0 123 t := by rw [fr 123 (by omega) (by omega)]
    have h124 : I 124 t = I0 124 t := by rw [fr 124 (by omega) (by omega)]
    have mid : ∀ mo' : Int, mo' = max mo dd_ → PW sc mX11_depth d 0 0 post 57 [some (.inr (some 112)), some (.inl tm), some (.inl dd_), some (.inl mo'), some (.inl p), some (.inl t)] [] Γ I R := by
      intro mo' hmo'
      rcases T.kind t0 t1 with ⟨k1, k2, k3⟩ | ⟨k1, k2, k3⟩ | ⟨k1, k2, k3, k4⟩
      · rw [k3, dep_tc] at hmo dm pd
        have e2 : mo' = mo2 := by omega
        refine PW.aload_n (pc := 57) dX11_depth_57 rfl ?_
        refine PW.getr (pc := 58) dX11_depth_58 fl_X11_38 M.g112 M.r15 ?_
        refine PW.iload (pc := 61) dX11_depth_61 rfl ?_
        refine PW.iald (pc := 63) dX11_depth_63 M.g122 (by omega) (by omega) (by omega) ?_
        rw [h122, k1]
        refine PW.iconst (pc := 64) dX11_depth_64 ?_
        refine PW.icmp_ne (pc := 65) (tgt := 95) dX11_depth_65 (by decide) (by first | omega | exact rg_of _) (by first | omega | exact rg_of _) (fun c_65 => ?_) (fun c_65 => ?_)
        · refine PW.aload_n (pc := 95) dX11_depth_95 rfl ?_
          refine PW.getr (pc := 96) dX11_depth_96 fl_X11_38 M.g112 M.r15 ?_
          refine PW.iload (pc := 99) dX11_depth_99 rfl ?_
          refine PW.iald (pc := 101) dX11_depth_101 M.g122 (by omega) (by omega) (by omega) ?_
          rw [h122, k1]
          refine PW.iconst (pc := 102) dX11_depth_102 ?_
          refine PW.icmp_lt (pc := 103) (tgt := 133) dX11_depth_103 (by decide) (by first | omega | exact rg_of _) (by first | omega | exact rg_of _) (fun c_103 => ?_) (fun c_103 => ?_)
          · refine PW.goto (pc := 133) (tgt := 21) dX11_depth_133 (by decide) ?_
            rw [e2]; exact K I _ _ fr (fun _ _ _ => rfl)
          · omega
        · omega
      · rw [k3, dep_tf] at hmo dm pd
        have dl := dep_nonneg (tb (I0 123 t))
        have nx := ih (I0 123 t).toNat (by omega) (I0 123 t) p (dd_ + 1) mo' mo2 (pw_up (pw_up I 125 p (I0 123 t)) 126 p (dd_ + 1)) (some (.inl dd_)) (some (.inl t)) rfl k2.1 (by omega) p0 (by omega) (by omega) (by omega) (by omega) (by omega) (fun q a b => by rw [pw_up_ne q b, pw_up_ne q a, fr q a b]) (by rw [pw_up_other (by omega), pw_up_self]) (by rw [pw_up_self]) (by omega) (fun I2 o2 o5 f1 f2 => K I2 o2 o5 f1 (fun q k hk => by rw [f2 q k hk, pw_up_other (by omega), pw_up_other (by omega)]))
        refine PW.aload_n (pc := 57) dX11_depth_57 rfl ?_
        refine PW.getr (pc := 58) dX11_depth_58 fl_X11_38 M.g112 M.r15 ?_
        refine PW.iload (pc := 61) dX11_depth_61 rfl ?_
        refine PW.iald (pc := 63) dX11_depth_63 M.g122 (by omega) (by omega) (by omega) ?_
        rw [h122, k1]
        refine PW.iconst (pc := 64) dX11_depth_64 ?_
        refine PW.icmp_ne (pc := 65) (tgt := 95) dX11_depth_65 (by decide) (by first | omega | exact rg_of _) (by first | omega | exact rg_of _) (fun c_65 => ?_) (fun c_65 => ?_)
        · refine PW.aload_n (pc := 95) dX11_depth_95 rfl ?_
          refine PW.getr (pc := 96) dX11_depth_96 fl_X11_38 M.g112 M.r15 ?_
          refine PW.iload (pc := 99) dX11_depth_99 rfl ?_
          refine PW.iald (pc := 101) dX11_depth_101 M.g122 (by omega) (by omega) (by omega) ?_
          rw [h122, k1]
          refine PW.iconst (pc := 102) dX11_depth_102 ?_
          refine PW.icmp_lt (pc := 103) (tgt := 133) dX11_depth_103 (by decide) (by first | omega | exact rg_of _) (by first | omega | exact rg_of _) (fun c_103 => ?_) (fun c_103 => ?_)
          · omega
          · refine PW.aload_n (pc := 106) dX11_depth_106 rfl ?_
            refine PW.getr (pc := 107) dX11_depth_107 fl_X11_47 M.g112 M.r18 ?_
            refine PW.iload (pc := 110) dX11_depth_110 rfl ?_
            refine PW.aload_n (pc := 112) dX11_depth_112 rfl ?_
            refine PW.getr (pc := 113) dX11_depth_113 fl_X11_41 M.g112 M.r16 ?_
            refine PW.iload (pc := 116) dX11_depth_116 rfl ?_
            refine PW.iald (pc := 118) dX11_depth_118 M.g123 (by omega) (by omega) (by omega) ?_
            rw [h123]
            refine PW.iast (pc := 119) dX11_depth_119 M.g125 (by omega) (by omega) (by omega) ?_
            refine PW.aload_n (pc := 120) dX11_depth_120 rfl ?_
            refine PW.getr (pc := 121) dX11_depth_121 fl_X11_50 M.g112 M.r19 ?_
            refine PW.iload (pc := 124) dX11_depth_124 rfl ?_
            refine PW.iload_n (pc := 126) dX11_depth_126 rfl ?_
            refine PW.iconst (pc := 127) dX11_depth_127 ?_
            refine PW.iadd (pc := 128) dX11_depth_128 ?_
            refine PW.iast (pc := 129) dX11_depth_129 M.g126 (by omega) (by omega) (by omega) ?_
            refine PW.iinc (pc := 130) dX11_depth_130 rfl (by decide) ?_
            refine PW.goto (pc := 133) (tgt := 21) dX11_depth_133 (by decide) ?_
            exact nx
        · omega
      · rw [k4, dep_tg] at hmo dm pd
        have dl := dep_nonneg (tb (I0 123 t))
        have dr := dep_nonneg (tb (I0 124 t))
        have g122 : pw_up (pw_up I 125 p (I0 124 t)) 126 p (dd_ + 1) 122 t = 5 := by rw [pw_up_other (by omega), pw_up_other (by omega), h122, k1]
        have g123 : pw_up (pw_up I 125 p (I0 124 t)) 126 p (dd_ + 1) 123 t = I0 123 t := by rw [pw_up_other (by omega), pw_up_other (by omega), h123]
        have nx := ih (I0 123 t).toNat (by omega) (I0 123 t) (p + 1) (dd_ + 1) mo' (max mo' (dd_ + 1 + dep (tb (I0 123 t)))) (pw_up (pw_up (pw_up (pw_up I 125 p (I0 124 t)) 126 p (dd_ + 1)) 125 (p + 1) (I0 123 t)) 126 (p + 1) (dd_ + 1)) (some (.inl dd_)) (some (.inl t)) rfl k2.1 (by omega) (by omega) (by omega) (by omega) (by omega) (by omega) (by omega) (fun q a b => by rw [pw_up_ne q b, pw_up_ne q a, pw_up_ne q b, pw_up_ne q a, fr q a b]) (by rw [pw_up_other (by omega), pw_up_self]) (by rw [pw_up_self]) rfl (fun I2 o2 o5 f1 f2 => ih (I0 124 t).toNat (by omega) (I0 124 t) p (dd_ + 1) (max mo' (dd_ + 1 + dep (tb (I0 123 t)))) mo2 I2 o2 o5 rfl k3.1 (by omega) p0 (by omega) (by omega) (by omega) (by omega) (by omega) f1 (by rw [f2 125 p (by omega), pw_up_other (by omega), pw_up_other (by omega), pw_up_other (by omega), pw_up_self]) (by rw [f2 126 p (by omega), pw_up_other (by omega), pw_up_other (by omega), pw_up_self]) (by omega) (fun I3 o2 o5 f3 f4 => K I3 o2 o5 f3 (fun q k hk => by rw [f4 q k hk, f2 q k (by omega), pw_up_other (by omega), pw_up_other (by omega), pw_up_other (by omega), pw_up_other (by omega)])))
        refine PW.aload_n (pc := 57) dX11_depth_57 rfl ?_
        refine PW.getr (pc := 58) dX11_depth_58 fl_X11_38 M.g112 M.r15 ?_
        refine PW.iload (pc := 61) dX11_depth_61 rfl ?_
        refine PW.iald (pc := 63) dX11_depth_63 M.g122 (by omega) (by omega) (by omega) ?_
        rw [h122, k1]
        refine PW.iconst (pc := 64) dX11_depth_64 ?_
        refine PW.icmp_ne (pc := 65) (tgt := 95) dX11_depth_65 (by decide) (by first | omega | exact rg_of _) (by first | omega | exact rg_of _) (fun c_65 => ?_) (fun c_65 => ?_)
        · omega
        · refine PW.aload_n (pc := 68) dX11_depth_68 rfl ?_
          refine PW.getr (pc := 69) dX11_depth_69 fl_X11_47 M.g112 M.r18 ?_
          refine PW.iload (pc := 72) dX11_depth_72 rfl ?_
          refine PW.aload_n (pc := 74) dX11_depth_74 rfl ?_
          refine PW.getr (pc := 75) dX11_depth_75 fl_X11_44 M.g112 M.r17 ?_
          refine PW.iload (pc := 78) dX11_depth_78 rfl ?_
          refine PW.iald (pc := 80) dX11_depth_80 M.g124 (by omega) (by omega) (by omega) ?_
          rw [h124]
          refine PW.iast (pc := 81) dX11_depth_81 M.g125 (by omega) (by omega) (by omega) ?_
          refine PW.aload_n (pc := 82) dX11_depth_82 rfl ?_
          refine PW.getr (pc := 83) dX11_depth_83 fl_X11_50 M.g112 M.r19 ?_
          refine PW.iload (pc := 86) dX11_depth_86 rfl ?_
          refine PW.iload_n (pc := 88) dX11_depth_88 rfl ?_
          refine PW.iconst (pc := 89) dX11_depth_89 ?_
          refine PW.iadd (pc := 90) dX11_depth_90 ?_
          refine PW.iast (pc := 91) dX11_depth_91 M.g126 (by omega) (by omega) (by omega) ?_
          refine PW.iinc (pc := 92) dX11_depth_92 rfl (by decide) ?_
          refine PW.aload_n (pc := 95) dX11_depth_95 rfl ?_
          refine PW.getr (pc := 96) dX11_depth_96 fl_X11_38 M.g112 M.r15 ?_
          refine PW.iload (pc := 99) dX11_depth_99 rfl ?_
          refine PW.iald (pc := 101) dX11_depth_101 M.g122 (by omega) (by omega) (by omega) ?_
          rw [g122]
          refine PW.iconst (pc := 102) dX11_depth_102 ?_
          refine PW.icmp_lt (pc := 103) (tgt := 133) dX11_depth_103 (by decide) (by first | omega | exact rg_of _) (by first | omega | exact rg_of _) (fun c_103 => ?_) (fun c_103 => ?_)
          · omega
          · refine PW.aload_n (pc := 106) dX11_depth_106 rfl ?_
            refine PW.getr (pc := 107) dX11_depth_107 fl_X11_47 M.g112 M.r18 ?_
            refine PW.iload (pc := 110) dX11_depth_110 rfl ?_
            refine PW.aload_n (pc := 112) dX11_depth_112 rfl ?_
            refine PW.getr (pc := 113) dX11_depth_113 fl_X11_41 M.g112 M.r16 ?_
            refine PW.iload (pc := 116) dX11_depth_116 rfl ?_
            refine PW.iald (pc := 118) dX11_depth_118 M.g123 (by omega) (by omega) (by omega) ?_
            rw [g123]
            refine PW.iast (pc := 119) dX11_depth_119 M.g125 (by omega) (by omega) (by omega) ?_
            refine PW.aload_n (pc := 120) dX11_depth_120 rfl ?_
            refine PW.getr (pc := 121) dX11_depth_121 fl_X11_50 M.g112 M.r19 ?_
            refine PW.iload (pc := 124) dX11_depth_124 rfl ?_
            refine PW.iload_n (pc := 126) dX11_depth_126 rfl ?_
            refine PW.iconst (pc := 127) dX11_depth_127 ?_
            refine PW.iadd (pc := 128) dX11_depth_128 ?_
            refine PW.iast (pc := 129) dX11_depth_129 M.g126 (by omega) (by omega) (by omega) ?_
            refine PW.iinc (pc := 130) dX11_depth_130 rfl (by decide) ?_
            refine PW.goto (pc := 133) (tgt := 21) dX11_depth_133 (by decide) ?_
            exact nx
    refine PW.iload (pc := 21) dX11_depth_21 rfl ?_
    refine PW.if_le (pc := 23) (tgt := 136) dX11_depth_23 (by decide) (by first | omega | exact rg_of _) (fun c_23 => ?_) (fun c_23 => ?_)
    · omega
    · refine PW.iinc (pc := 26) dX11_depth_26 rfl (by decide) ?_
      rw [ep]
      refine PW.aload_n (pc := 29) dX11_depth_29 rfl ?_
      refine PW.getr (pc := 30) dX11_depth_30 fl_X11_47 M.g112 M.r18 ?_
      refine PW.iload (pc := 33) dX11_depth_33 rfl ?_
      refine PW.iald (pc := 35) dX11_depth_35 M.g125 (by omega) (by omega) (by omega) ?_
      rw [e125]
      refine PW.istore (pc := 36) dX11_depth_36 (by decide) ?_
      refine PW.aload_n (pc := 38) dX11_depth_38 rfl ?_
      refine PW.getr (pc := 39) dX11_depth_39 fl_X11_50 M.g112 M.r19 ?_
      refine PW.iload (pc := 42) dX11_depth_42 rfl ?_
      refine PW.iald (pc := 44) dX11_depth_44 M.g126 (by omega) (by omega) (by omega) ?_
      rw [e126]
      refine PW.istore_n (pc := 45) dX11_depth_45 (by decide) ?_
      refine PW.iload_n (pc := 46) dX11_depth_46 rfl ?_
      refine PW.iload_n (pc := 47) dX11_depth_47 rfl ?_
      refine PW.icmp_le (pc := 48) (tgt := 55) dX11_depth_48 (by decide) (by first | omega | exact rg_of _) (by first | omega | exact rg_of _) (fun c_48 => ?_) (fun c_48 => ?_)
      · refine PW.iload_n (pc := 55) dX11_depth_55 rfl ?_
        refine PW.istore_n (pc := 56) dX11_depth_56 (by decide) ?_
        exact mid _ (by omega)
      · refine PW.iload_n (pc := 51) dX11_depth_51 rfl ?_
        refine PW.goto (pc := 52) (tgt := 56) dX11_depth_52 (by decide) ?_
        refine PW.istore_n (pc := 56) dX11_depth_56 (by decide) ?_
        exact mid _ (by omega)
set_option maxRecDepth 100000 in
set_option maxHeartbeats 1000000 in
theorem c_X11_depth (d : Nat) {I : PIm} {z t : Int} {tb : Int → Tm} (M : MAt Γ R) (T : MTab I z tb) (hz : z ≤ 200) (t0 : 0 ≤ t) (t1 : t < z) (hd : dep (tb t) ≤ 30) : PC sc mX11_depth d 0 0 [.inr (some 112), .inl t] Γ I R (fun v Γ' I' R' => v = some (.inl (dep (tb t))) ∧ Γ' = Γ ∧ R' = R ∧ ∀ q, q ≠ 125 → q ≠ 126 → I' q = I q) := by
  have dn := dep_nonneg (tb t)
  have fin : ∀ (I2 : PIm) (o2 o5 : Option PV), (∀ q, q ≠ 125 → q ≠ 126 → I2 q = I q) → PW sc mX11_depth d 0 0 (fun v Γ' I' R' => v = some (.inl (dep (tb t))) ∧ Γ' = Γ ∧ R' = R ∧ ∀ q, q ≠ 125 → q ≠ 126 → I' q = I q) 21 [some (.inr (some 112)), some (.inl t), o2, some (.inl (dep (tb t))), some (.inl 0), o5] [] Γ I2 R := by
    intro I2 o2 o5 f1
    refine PW.iload (pc := 21) dX11_depth_21 rfl ?_
    refine PW.if_le (pc := 23) (tgt := 136) dX11_depth_23 (by decide) (by first | omega | exact rg_of _) (fun c_23 => ?_) (fun c_23 => ?_)
    · refine PW.iload_n (pc := 136) dX11_depth_136 rfl ?_
      exact PW.ireturn (pc := 137) dX11_depth_137 rfl (⟨rfl, rfl, rfl, f1⟩)
    · omega
  have L := lp_depth (sc := sc) (Γ := Γ) (R := R) d (I0 := I) (tm := t) M T hz _ t 0 0 0 (dep (tb t)) (pw_up (pw_up I 125 0 t) 126 0 0) (some (.inl 0)) none rfl t0 t1 (by omega) (by omega) (by omega) (by omega) (by omega) (by omega) (fun q a b => by rw [pw_up_ne q b, pw_up_ne q a]) (by rw [pw_up_other (by omega), pw_up_self]) (by rw [pw_up_self]) (by omega) (fun I2 o2 o5 f1 _ => fin I2 o2 o5 f1)
  refine PC.ofPW (by decide) (Nat.le_of_ble_eq_true rfl) ?_
  refine PW.iconst (pc := 0) dX11_depth_0 ?_
  refine PW.istore_n (pc := 1) dX11_depth_1 (by decide) ?_
  refine PW.iconst (pc := 2) dX11_depth_2 ?_
  refine PW.istore_n (pc := 3) dX11_depth_3 (by decide) ?_
  refine PW.iconst (pc := 4) dX11_depth_4 ?_
  refine PW.istore (pc := 5) dX11_depth_5 (by decide) ?_
  refine PW.aload_n (pc := 7) dX11_depth_7 rfl ?_
  refine PW.getr (pc := 8) dX11_depth_8 fl_X11_47 M.g112 M.r18 ?_
  refine PW.iconst (pc := 11) dX11_depth_11 ?_
  refine PW.iload_n (pc := 12) dX11_depth_12 rfl ?_
  refine PW.iast (pc := 13) dX11_depth_13 M.g125 (by omega) (by omega) (by omega) ?_
  refine PW.aload_n (pc := 14) dX11_depth_14 rfl ?_
  refine PW.getr (pc := 15) dX11_depth_15 fl_X11_50 M.g112 M.r19 ?_
  refine PW.iconst (pc := 18) dX11_depth_18 ?_
  refine PW.iconst (pc := 19) dX11_depth_19 ?_
  refine PW.iast (pc := 20) dX11_depth_20 M.g126 (by omega) (by omega) (by omega) ?_
  exact L
end MDEEP
