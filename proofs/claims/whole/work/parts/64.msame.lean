section MSAME
variable {sc : PSc} {Γ : List PTy} {R : PRm}
set_option maxRecDepth 100000 in
set_option maxHeartbeats 1000000 in
theorem c_X11_joins (d : Nat) {I0 : PIm} {zn : Nat} {a b : Int} (M : MAt Γ R) (hz : I0 112 13 = zn) (hz2 : zn ≤ 200) (hr : RtOK (I0 137) zn) (ha : 0 ≤ a ∧ a < zn) (hb : 0 ≤ b ∧ b < zn) : PC sc mX11_joins d 0 0 [.inr (some 112), .inl a, .inl b] Γ I0 R (fun v Γ' I' R' => v = none ∧ Γ' = Γ ∧ R' = R ∧ (∀ q, q ≠ 137 → I' q = I0 q) ∧ ∀ i : Int, 0 ≤ i → i < zn → I' 137 i = mrg (I0 137) b a i) := by
  have hrg : ∀ i : Int, 0 ≤ i → i < zn → Rg (I0 137 i) := fun i i0 i1 => by have := hr i i0 i1; omega
  have ra := hrg a ha.1 ha.2
  have rb := hrg b hb.1 hb.2
  have loop : ∀ (N k : Nat) (I : PIm), zn - k = N → k ≤ zn → (∀ q, q ≠ 137 → I q = I0 q) → (∀ i : Int, 0 ≤ i → i < k → I 137 i = mrg (I0 137) b a i) → (∀ i : Int, (k : Int) ≤ i → i < zn → I 137 i = I0 137 i) → PW sc mX11_joins d 0 0 (fun v Γ' I' R' => v = none ∧ Γ' = Γ ∧ R' = R ∧ (∀ q, q ≠ 137 → I' q = I0 q) ∧ ∀ i : Int, 0 ≤ i → i < zn → I' 137 i = mrg (I0 137) b a i) 18 [some (.inr (some 112)), some (.inl a), some (.inl b), some (.inl (I0 137 a)), some (.inl (I0 137 b)), some (.inl (k : Int))] [] Γ I R := by
    intro N
    induction N using Nat.strongRecOn with
    | _ N ih =>
      intro k I hN hk fr h1 h2
      have e13 : I 112 13 = zn := by rw [fr 112 (by omega)]; exact hz
      by_cases hl : k < zn
      · have ek := h2 k (by omega) (by omega)
        have rk := hrg k (by omega) (by omega)
        have nx : ∀ v, v = mrg (I0 137) b a k → PW sc mX11_joins d 0 0 (fun v Γ' I' R' => v = none ∧ Γ' = Γ ∧ R' = R ∧ (∀ q, q ≠ 137 → I' q = I0 q) ∧ ∀ i : Int, 0 ≤ i → i < zn → I' 137 i = mrg (I0 137) b a i) 18 [some (.inr (some 112)), some (.inl a), some (.inl b), some (.inl (I0 137 a)), some (.inl (I0 137 b)), some (.inl ((k : Int) + 1))] [] Γ (pw_up I 137 k v) R := fun v hv => ih (zn - (k + 1)) (by omega) (k + 1) _ rfl (by omega) (fun q hq => by rw [pw_up_ne q hq, fr q hq]) (fun i i0 i1 => by
            by_cases e : i = (k : Int)
            · rw [e, pw_up_self]; exact hv
            · rw [pw_up_other (by omega)]; exact h1 i i0 (by omega)) (fun i i0 i1 => by rw [pw_up_other (by omega)]; exact h2 i (by omega) i1)
        refine PW.iload (pc := 18) dX11_joins_18 rfl ?_
        refine PW.aload_n (pc := 20) dX11_joins_20 rfl ?_
        refine PW.geti (pc := 21) dX11_joins_21 fl_X11_112 (by decide) M.g112 ?_
        rw [e13]
        refine PW.icmp_ge (pc := 24) (tgt := 63) dX11_joins_24 (by decide) (by first | omega | exact rg_of _) (by first | omega | exact rg_of _) (fun c_24 => ?_) (fun c_24 => ?_)
        · omega
        · refine PW.aload_n (pc := 27) dX11_joins_27 rfl ?_
          refine PW.getr (pc := 28) dX11_joins_28 fl_X11_83 M.g112 M.r36 ?_
          refine PW.iload (pc := 31) dX11_joins_31 rfl ?_
          refine PW.aload_n (pc := 33) dX11_joins_33 rfl ?_
          refine PW.getr (pc := 34) dX11_joins_34 fl_X11_83 M.g112 M.r36 ?_
          refine PW.iload (pc := 37) dX11_joins_37 rfl ?_
          refine PW.iald (pc := 39) dX11_joins_39 M.g137 (by omega) (by omega) (by omega) ?_
          rw [ek]
          refine PW.iload_n (pc := 40) dX11_joins_40 rfl ?_
          refine PW.icmp_ne (pc := 41) (tgt := 49) dX11_joins_41 (by decide) (by first | omega | exact rg_of _) (by first | omega | exact rg_of _) (fun c_41 => ?_) (fun c_41 => ?_)
          · refine PW.aload_n (pc := 49) dX11_joins_49 rfl ?_
            refine PW.getr (pc := 50) dX11_joins_50 fl_X11_83 M.g112 M.r36 ?_
            refine PW.iload (pc := 53) dX11_joins_53 rfl ?_
            refine PW.iald (pc := 55) dX11_joins_55 M.g137 (by omega) (by omega) (by omega) ?_
            try rw [ek]
            refine PW.iast (pc := 56) dX11_joins_56 M.g137 (by omega) (by omega) (by omega) ?_
            refine PW.iinc (pc := 57) dX11_joins_57 rfl (by decide) ?_
            refine PW.goto (pc := 60) (tgt := 18) dX11_joins_60 (by decide) ?_
            first
            | exact nx _ (by unfold mrg; rw [if_pos c_41])
            | exact nx _ (by unfold mrg; rw [if_neg c_41])
          · refine PW.iload (pc := 44) dX11_joins_44 rfl ?_
            refine PW.goto (pc := 46) (tgt := 56) dX11_joins_46 (by decide) ?_
            try rw [ek]
            refine PW.iast (pc := 56) dX11_joins_56 M.g137 (by omega) (by omega) (by omega) ?_
            refine PW.iinc (pc := 57) dX11_joins_57 rfl (by decide) ?_
            refine PW.goto (pc := 60) (tgt := 18) dX11_joins_60 (by decide) ?_
            first
            | exact nx _ (by unfold mrg; rw [if_pos c_41])
            | exact nx _ (by unfold mrg; rw [if_neg c_41])
      · obtain rfl : k = zn := by omega
        refine PW.iload (pc := 18) dX11_joins_18 rfl ?_
        refine PW.aload_n (pc := 20) dX11_joins_20 rfl ?_
        refine PW.geti (pc := 21) dX11_joins_21 fl_X11_112 (by decide) M.g112 ?_
        rw [e13]
        refine PW.icmp_ge (pc := 24) (tgt := 63) dX11_joins_24 (by decide) (by first | omega | exact rg_of _) (by first | omega | exact rg_of _) (fun c_24 => ?_) (fun c_24 => ?_)
        · exact PW.vreturn (pc := 63) dX11_joins_63 rfl (⟨rfl, rfl, rfl, fr, h1⟩)
        · omega
  refine PC.ofPW (by decide) (Nat.le_of_ble_eq_true rfl) ?_
  refine PW.aload_n (pc := 0) dX11_joins_0 rfl ?_
  refine PW.getr (pc := 1) dX11_joins_1 fl_X11_83 M.g112 M.r36 ?_
  refine PW.iload_n (pc := 4) dX11_joins_4 rfl ?_
  refine PW.iald (pc := 5) dX11_joins_5 M.g137 (by omega) (by omega) (by omega) ?_
  refine PW.istore_n (pc := 6) dX11_joins_6 (by decide) ?_
  refine PW.aload_n (pc := 7) dX11_joins_7 rfl ?_
  refine PW.getr (pc := 8) dX11_joins_8 fl_X11_83 M.g112 M.r36 ?_
  refine PW.iload_n (pc := 11) dX11_joins_11 rfl ?_
  refine PW.iald (pc := 12) dX11_joins_12 M.g137 (by omega) (by omega) (by omega) ?_
  refine PW.istore (pc := 13) dX11_joins_13 (by decide) ?_
  refine PW.iconst (pc := 15) dX11_joins_15 ?_
  refine PW.istore (pc := 16) dX11_joins_16 (by decide) ?_
  exact loop zn 0 I0 rfl (by omega) (fun _ _ => rfl) (fun i i0 i1 => by omega) (fun _ _ _ => rfl)
abbrev Mpar (I : PIm) (a b : Int) : Prop := I 122 a = I 122 b ∧ 4 ≤ I 122 a ∧ I 137 a ≠ I 137 b ∧ I 137 (I 123 a) = I 137 (I 123 b) ∧ (I 122 a = 4 ∨ I 137 (I 124 a) = I 137 (I 124 b))
set_option maxRecDepth 100000 in
set_option maxHeartbeats 1000000 in
theorem MTab.row4 {I : PIm} {z : Int} {tb : Int → Tm} (T : MTab I z tb) {i : Int} (i0 : 0 ≤ i) (i1 : i < z) (h : 4 ≤ I 122 i) : (I 122 i = 4 ∧ (0 ≤ I 123 i ∧ I 123 i < i) ∧ I 124 i = -9 ∧ tb i = tf (tb (I 123 i))) ∨ (I 122 i = 5 ∧ (0 ≤ I 123 i ∧ I 123 i < i) ∧ (0 ≤ I 124 i ∧ I 124 i < i) ∧ tb i = tg (tb (I 123 i)) (tb (I 124 i))) := by
  obtain ⟨u, v⟩ := T.2.1 i i0 i1
  by_cases q : i < 4
  · have := (u q).1.1; omega
  · rcases v (by omega) with ⟨a, b, c⟩ | ⟨a, b, c, e⟩
    · exact Or.inl ⟨a.1, b, a.2.2, c⟩
    · exact Or.inr ⟨a.1, b, c, e⟩
set_option maxRecDepth 100000 in
set_option maxHeartbeats 1000000 in
theorem c_X11_areParted (d : Nat) {I : PIm} {zn : Nat} {tb : Int → Tm} {a b : Int} (M : MAt Γ R) (T : MTab I zn tb) (hz2 : zn ≤ 200) (hr : RtOK (I 137) zn) (ha : 0 ≤ a ∧ a < zn) (hb : 0 ≤ b ∧ b < zn) : PC sc mX11_areParted d 0 0 [.inr (some 112), .inl a, .inl b] Γ I R (px (some (.inl (bi (Mpar I a b)))) Γ I R) := by
  have hrg : ∀ i : Int, 0 ≤ i → i < zn → Rg (I 137 i) := fun i i0 i1 => by have := hr i i0 i1; omega
  have ra := hrg a ha.1 ha.2
  have rb := hrg b hb.1 hb.2
  obtain ⟨xa1, xa2, xa3⟩ := T.rg (by omega) a ha.1 ha.2
  obtain ⟨xb1, xb2, xb3⟩ := T.rg (by omega) b hb.1 hb.2
  refine PC.ofPW (by decide) (Nat.le_of_ble_eq_true rfl) ?_
  by_cases h4 : I 122 a = I 122 b ∧ 4 ≤ I 122 a
  · have wa := T.row4 ha.1 ha.2 h4.2
    have wb := T.row4 hb.1 hb.2 (by omega)
    have la : 0 ≤ I 123 a ∧ I 123 a < a := by rcases wa with w | w <;> exact w.2.1
    have lb : 0 ≤ I 123 b ∧ I 123 b < b := by rcases wb with w | w <;> exact w.2.1
    have rla := hrg _ la.1 (by omega)
    have rlb := hrg _ lb.1 (by omega)
    by_cases h5 : I 122 a = 4
    · refine PW.aload_n (pc := 0) dX11_areParted_0 rfl ?_
      refine PW.getr (pc := 1) dX11_areParted_1 fl_X11_38 M.g112 M.r15 ?_
      refine PW.iload_n (pc := 4) dX11_areParted_4 rfl ?_
      refine PW.iald (pc := 5) dX11_areParted_5 M.g122 (by omega) (by omega) (by omega) ?_
      refine PW.aload_n (pc := 6) dX11_areParted_6 rfl ?_
      refine PW.getr (pc := 7) dX11_areParted_7 fl_X11_38 M.g112 M.r15 ?_
      refine PW.iload_n (pc := 10) dX11_areParted_10 rfl ?_
      refine PW.iald (pc := 11) dX11_areParted_11 M.g122 (by omega) (by omega) (by omega) ?_
      refine PW.icmp_ne (pc := 12) (tgt := 104) dX11_areParted_12 (by decide) (by first | omega | exact rg_of _) (by first | omega | exact rg_of _) (fun c_12 => ?_) (fun c_12 => ?_)
      · omega
      · refine PW.aload_n (pc := 15) dX11_areParted_15 rfl ?_
        refine PW.getr (pc := 16) dX11_areParted_16 fl_X11_38 M.g112 M.r15 ?_
        refine PW.iload_n (pc := 19) dX11_areParted_19 rfl ?_
        refine PW.iald (pc := 20) dX11_areParted_20 M.g122 (by omega) (by omega) (by omega) ?_
        refine PW.iconst (pc := 21) dX11_areParted_21 ?_
        refine PW.icmp_lt (pc := 22) (tgt := 104) dX11_areParted_22 (by decide) (by first | omega | exact rg_of _) (by first | omega | exact rg_of _) (fun c_22 => ?_) (fun c_22 => ?_)
        · omega
        · refine PW.aload_n (pc := 25) dX11_areParted_25 rfl ?_
          refine PW.getr (pc := 26) dX11_areParted_26 fl_X11_83 M.g112 M.r36 ?_
          refine PW.iload_n (pc := 29) dX11_areParted_29 rfl ?_
          refine PW.iald (pc := 30) dX11_areParted_30 M.g137 (by omega) (by omega) (by omega) ?_
          refine PW.aload_n (pc := 31) dX11_areParted_31 rfl ?_
          refine PW.getr (pc := 32) dX11_areParted_32 fl_X11_83 M.g112 M.r36 ?_
          refine PW.iload_n (pc := 35) dX11_areParted_35 rfl ?_
          refine PW.iald (pc := 36) dX11_areParted_36 M.g137 (by omega) (by omega) (by omega) ?_
          refine PW.icmp_eq (pc := 37) (tgt := 104) dX11_areParted_37 (by decide) (by first | omega | exact rg_of _) (by first | omega | exact rg_of _) (fun c_37 => ?_) (fun c_37 => ?_)
          · refine PW.iconst (pc := 104) dX11_areParted_104 ?_
            exact PW.zreturn (pc := 105) dX11_areParted_105 rfl (by first | exact Or.inl rfl | exact Or.inr rfl | omega) (by first | exact pxb_pos ⟨h4.1, h4.2, c_37, c_62, Or.inl h5⟩ | exact pxb_neg (fun o => o.2.2.1 c_37) | exact pxb_neg (fun o => c_62 o.2.2.2.1))
          · refine PW.aload_n (pc := 40) dX11_areParted_40 rfl ?_
            refine PW.getr (pc := 41) dX11_areParted_41 fl_X11_83 M.g112 M.r36 ?_
            refine PW.aload_n (pc := 44) dX11_areParted_44 rfl ?_
            refine PW.getr (pc := 45) dX11_areParted_45 fl_X11_41 M.g112 M.r16 ?_
            refine PW.iload_n (pc := 48) dX11_areParted_48 rfl ?_
            refine PW.iald (pc := 49) dX11_areParted_49 M.g123 (by omega) (by omega) (by omega) ?_
            refine PW.iald (pc := 50) dX11_areParted_50 M.g137 (by omega) (by omega) (by omega) ?_
            refine PW.aload_n (pc := 51) dX11_areParted_51 rfl ?_
            refine PW.getr (pc := 52) dX11_areParted_52 fl_X11_83 M.g112 M.r36 ?_
            refine PW.aload_n (pc := 55) dX11_areParted_55 rfl ?_
            refine PW.getr (pc := 56) dX11_areParted_56 fl_X11_41 M.g112 M.r16 ?_
            refine PW.iload_n (pc := 59) dX11_areParted_59 rfl ?_
            refine PW.iald (pc := 60) dX11_areParted_60 M.g123 (by omega) (by omega) (by omega) ?_
            refine PW.iald (pc := 61) dX11_areParted_61 M.g137 (by omega) (by omega) (by omega) ?_
            refine PW.icmp_ne (pc := 62) (tgt := 104) dX11_areParted_62 (by decide) (by first | omega | exact rg_of _) (by first | omega | exact rg_of _) (fun c_62 => ?_) (fun c_62 => ?_)
            · refine PW.iconst (pc := 104) dX11_areParted_104 ?_
              exact PW.zreturn (pc := 105) dX11_areParted_105 rfl (by first | exact Or.inl rfl | exact Or.inr rfl | omega) (by first | exact pxb_pos ⟨h4.1, h4.2, c_37, c_62, Or.inl h5⟩ | exact pxb_neg (fun o => o.2.2.1 c_37) | exact pxb_neg (fun o => c_62 o.2.2.2.1))
            · refine PW.aload_n (pc := 65) dX11_areParted_65 rfl ?_
              refine PW.getr (pc := 66) dX11_areParted_66 fl_X11_38 M.g112 M.r15 ?_
              refine PW.iload_n (pc := 69) dX11_areParted_69 rfl ?_
              refine PW.iald (pc := 70) dX11_areParted_70 M.g122 (by omega) (by omega) (by omega) ?_
              refine PW.iconst (pc := 71) dX11_areParted_71 ?_
              refine PW.icmp_eq (pc := 72) (tgt := 100) dX11_areParted_72 (by decide) (by first | omega | exact rg_of _) (by first | omega | exact rg_of _) (fun c_72 => ?_) (fun c_72 => ?_)
              · refine PW.iconst (pc := 100) dX11_areParted_100 ?_
                refine PW.goto (pc := 101) (tgt := 105) dX11_areParted_101 (by decide) ?_
                exact PW.zreturn (pc := 105) dX11_areParted_105 rfl (by first | exact Or.inl rfl | exact Or.inr rfl | omega) (by first | exact pxb_pos ⟨h4.1, h4.2, c_37, c_62, Or.inl h5⟩ | exact pxb_neg (fun o => o.2.2.1 c_37) | exact pxb_neg (fun o => c_62 o.2.2.2.1))
              · omega
    · have ga : 0 ≤ I 124 a ∧ I 124 a < a := by rcases wa with w | w; (· omega); (· exact w.2.2.1)
      have gb : 0 ≤ I 124 b ∧ I 124 b < b := by rcases wb with w | w; (· omega); (· exact w.2.2.1)
      have rga := hrg _ ga.1 (by omega)
      have rgb := hrg _ gb.1 (by omega)
      refine PW.aload_n (pc := 0) dX11_areParted_0 rfl ?_
      refine PW.getr (pc := 1) dX11_areParted_1 fl_X11_38 M.g112 M.r15 ?_
      refine PW.iload_n (pc := 4) dX11_areParted_4 rfl ?_
      refine PW.iald (pc := 5) dX11_areParted_5 M.g122 (by omega) (by omega) (by omega) ?_
      refine PW.aload_n (pc := 6) dX11_areParted_6 rfl ?_
      refine PW.getr (pc := 7) dX11_areParted_7 fl_X11_38 M.g112 M.r15 ?_
      refine PW.iload_n (pc := 10) dX11_areParted_10 rfl ?_
      refine PW.iald (pc := 11) dX11_areParted_11 M.g122 (by omega) (by omega) (by omega) ?_
      refine PW.icmp_ne (pc := 12) (tgt := 104) dX11_areParted_12 (by decide) (by first | omega | exact rg_of _) (by first | omega | exact rg_of _) (fun c_12 => ?_) (fun c_12 => ?_)
      · omega
      · refine PW.aload_n (pc := 15) dX11_areParted_15 rfl ?_
        refine PW.getr (pc := 16) dX11_areParted_16 fl_X11_38 M.g112 M.r15 ?_
        refine PW.iload_n (pc := 19) dX11_areParted_19 rfl ?_
        refine PW.iald (pc := 20) dX11_areParted_20 M.g122 (by omega) (by omega) (by omega) ?_
        refine PW.iconst (pc := 21) dX11_areParted_21 ?_
        refine PW.icmp_lt (pc := 22) (tgt := 104) dX11_areParted_22 (by decide) (by first | omega | exact rg_of _) (by first | omega | exact rg_of _) (fun c_22 => ?_) (fun c_22 => ?_)
        · omega
        · refine PW.aload_n (pc := 25) dX11_areParted_25 rfl ?_
          refine PW.getr (pc := 26) dX11_areParted_26 fl_X11_83 M.g112 M.r36 ?_
          refine PW.iload_n (pc := 29) dX11_areParted_29 rfl ?_
          refine PW.iald (pc := 30) dX11_areParted_30 M.g137 (by omega) (by omega) (by omega) ?_
          refine PW.aload_n (pc := 31) dX11_areParted_31 rfl ?_
          refine PW.getr (pc := 32) dX11_areParted_32 fl_X11_83 M.g112 M.r36 ?_
          refine PW.iload_n (pc := 35) dX11_areParted_35 rfl ?_
          refine PW.iald (pc := 36) dX11_areParted_36 M.g137 (by omega) (by omega) (by omega) ?_
          refine PW.icmp_eq (pc := 37) (tgt := 104) dX11_areParted_37 (by decide) (by first | omega | exact rg_of _) (by first | omega | exact rg_of _) (fun c_37 => ?_) (fun c_37 => ?_)
          · refine PW.iconst (pc := 104) dX11_areParted_104 ?_
            exact PW.zreturn (pc := 105) dX11_areParted_105 rfl (by first | exact Or.inl rfl | exact Or.inr rfl | omega) (by first | exact pxb_pos ⟨h4.1, h4.2, c_37, c_62, Or.inr c_97⟩ | exact pxb_neg (fun o => o.2.2.1 c_37) | exact pxb_neg (fun o => c_62 o.2.2.2.1) | exact pxb_neg (fun o => o.2.2.2.2.elim h5 c_97))
          · refine PW.aload_n (pc := 40) dX11_areParted_40 rfl ?_
            refine PW.getr (pc := 41) dX11_areParted_41 fl_X11_83 M.g112 M.r36 ?_
            refine PW.aload_n (pc := 44) dX11_areParted_44 rfl ?_
            refine PW.getr (pc := 45) dX11_areParted_45 fl_X11_41 M.g112 M.r16 ?_
            refine PW.iload_n (pc := 48) dX11_areParted_48 rfl ?_
            refine PW.iald (pc := 49) dX11_areParted_49 M.g123 (by omega) (by omega) (by omega) ?_
            refine PW.iald (pc := 50) dX11_areParted_50 M.g137 (by omega) (by omega) (by omega) ?_
            refine PW.aload_n (pc := 51) dX11_areParted_51 rfl ?_
            refine PW.getr (pc := 52) dX11_areParted_52 fl_X11_83 M.g112 M.r36 ?_
            refine PW.aload_n (pc := 55) dX11_areParted_55 rfl ?_
            refine PW.getr (pc := 56) dX11_areParted_56 fl_X11_41 M.g112 M.r16 ?_
            refine PW.iload_n (pc := 59) dX11_areParted_59 rfl ?_
            refine PW.iald (pc := 60) dX11_areParted_60 M.g123 (by omega) (by omega) (by omega) ?_
            refine PW.iald (pc := 61) dX11_areParted_61 M.g137 (by omega) (by omega) (by omega) ?_
            refine PW.icmp_ne (pc := 62) (tgt := 104) dX11_areParted_62 (by decide) (by first | omega | exact rg_of _) (by first | omega | exact rg_of _) (fun c_62 => ?_) (fun c_62 => ?_)
            · refine PW.iconst (pc := 104) dX11_areParted_104 ?_
              exact PW.zreturn (pc := 105) dX11_areParted_105 rfl (by first | exact Or.inl rfl | exact Or.inr rfl | omega) (by first | exact pxb_pos ⟨h4.1, h4.2, c_37, c_62, Or.inr c_97⟩ | exact pxb_neg (fun o => o.2.2.1 c_37) | exact pxb_neg (fun o => c_62 o.2.2.2.1) | exact pxb_neg (fun o => o.2.2.2.2.elim h5 c_97))
            · refine PW.aload_n (pc := 65) dX11_areParted_65 rfl ?_
              refine PW.getr (pc := 66) dX11_areParted_66 fl_X11_38 M.g112 M.r15 ?_
              refine PW.iload_n (pc := 69) dX11_areParted_69 rfl ?_
              refine PW.iald (pc := 70) dX11_areParted_70 M.g122 (by omega) (by omega) (by omega) ?_
              refine PW.iconst (pc := 71) dX11_areParted_71 ?_
              refine PW.icmp_eq (pc := 72) (tgt := 100) dX11_areParted_72 (by decide) (by first | omega | exact rg_of _) (by first | omega | exact rg_of _) (fun c_72 => ?_) (fun c_72 => ?_)
              · omega
              · refine PW.aload_n (pc := 75) dX11_areParted_75 rfl ?_
                refine PW.getr (pc := 76) dX11_areParted_76 fl_X11_83 M.g112 M.r36 ?_
                refine PW.aload_n (pc := 79) dX11_areParted_79 rfl ?_
                refine PW.getr (pc := 80) dX11_areParted_80 fl_X11_44 M.g112 M.r17 ?_
                refine PW.iload_n (pc := 83) dX11_areParted_83 rfl ?_
                refine PW.iald (pc := 84) dX11_areParted_84 M.g124 (by omega) (by omega) (by omega) ?_
                refine PW.iald (pc := 85) dX11_areParted_85 M.g137 (by omega) (by omega) (by omega) ?_
                refine PW.aload_n (pc := 86) dX11_areParted_86 rfl ?_
                refine PW.getr (pc := 87) dX11_areParted_87 fl_X11_83 M.g112 M.r36 ?_
                refine PW.aload_n (pc := 90) dX11_areParted_90 rfl ?_
                refine PW.getr (pc := 91) dX11_areParted_91 fl_X11_44 M.g112 M.r17 ?_
                refine PW.iload_n (pc := 94) dX11_areParted_94 rfl ?_
                refine PW.iald (pc := 95) dX11_areParted_95 M.g124 (by omega) (by omega) (by omega) ?_
                refine PW.iald (pc := 96) dX11_areParted_96 M.g137 (by omega) (by omega) (by omega) ?_
                refine PW.icmp_ne (pc := 97) (tgt := 104) dX11_areParted_97 (by decide) (by first | omega | exact rg_of _) (by first | omega | exact rg_of _) (fun c_97 => ?_) (fun c_97 => ?_)
                · refine PW.iconst (pc := 104) dX11_areParted_104 ?_
                  exact PW.zreturn (pc := 105) dX11_areParted_105 rfl (by first | exact Or.inl rfl | exact Or.inr rfl | omega) (by first | exact pxb_pos ⟨h4.1, h4.2, c_37, c_62, Or.inr c_97⟩ | exact pxb_neg (fun o => o.2.2.1 c_37) | exact pxb_neg (fun o => c_62 o.2.2.2.1) | exact pxb_neg (fun o => o.2.2.2.2.elim h5 c_97))
                · refine PW.iconst (pc := 100) dX11_areParted_100 ?_
                  refine PW.goto (pc := 101) (tgt := 105) dX11_areParted_101 (by decide) ?_
                  exact PW.zreturn (pc := 105) dX11_areParted_105 rfl (by first | exact Or.inl rfl | exact Or.inr rfl | omega) (by first | exact pxb_pos ⟨h4.1, h4.2, c_37, c_62, Or.inr c_97⟩ | exact pxb_neg (fun o => o.2.2.1 c_37) | exact pxb_neg (fun o => c_62 o.2.2.2.1) | exact pxb_neg (fun o => o.2.2.2.2.elim h5 c_97))
  · refine PW.aload_n (pc := 0) dX11_areParted_0 rfl ?_
    refine PW.getr (pc := 1) dX11_areParted_1 fl_X11_38 M.g112 M.r15 ?_
    refine PW.iload_n (pc := 4) dX11_areParted_4 rfl ?_
    refine PW.iald (pc := 5) dX11_areParted_5 M.g122 (by omega) (by omega) (by omega) ?_
    refine PW.aload_n (pc := 6) dX11_areParted_6 rfl ?_
    refine PW.getr (pc := 7) dX11_areParted_7 fl_X11_38 M.g112 M.r15 ?_
    refine PW.iload_n (pc := 10) dX11_areParted_10 rfl ?_
    refine PW.iald (pc := 11) dX11_areParted_11 M.g122 (by omega) (by omega) (by omega) ?_
    refine PW.icmp_ne (pc := 12) (tgt := 104) dX11_areParted_12 (by decide) (by first | omega | exact rg_of _) (by first | omega | exact rg_of _) (fun c_12 => ?_) (fun c_12 => ?_)
    · refine PW.iconst (pc := 104) dX11_areParted_104 ?_
      exact PW.zreturn (pc := 105) dX11_areParted_105 rfl (by first | exact Or.inl rfl | exact Or.inr rfl | omega) (by first | exact pxb_neg (fun o => h4 ⟨o.1, o.2.1⟩))
    · refine PW.aload_n (pc := 15) dX11_areParted_15 rfl ?_
      refine PW.getr (pc := 16) dX11_areParted_16 fl_X11_38 M.g112 M.r15 ?_
      refine PW.iload_n (pc := 19) dX11_areParted_19 rfl ?_
      refine PW.iald (pc := 20) dX11_areParted_20 M.g122 (by omega) (by omega) (by omega) ?_
      refine PW.iconst (pc := 21) dX11_areParted_21 ?_
      refine PW.icmp_lt (pc := 22) (tgt := 104) dX11_areParted_22 (by decide) (by first | omega | exact rg_of _) (by first | omega | exact rg_of _) (fun c_22 => ?_) (fun c_22 => ?_)
      · refine PW.iconst (pc := 104) dX11_areParted_104 ?_
        exact PW.zreturn (pc := 105) dX11_areParted_105 rfl (by first | exact Or.inl rfl | exact Or.inr rfl | omega) (by first | exact pxb_neg (fun o => h4 ⟨o.1, o.2.1⟩))
      · omega
set_option maxRecDepth 100000 in
set_option maxHeartbeats 1000000 in
theorem Mpar.sound {I : PIm} {z : Int} {tb : Int → Tm} (T : MTab I z tb) {a b : Int} (ha : 0 ≤ a ∧ a < z) (hb : 0 ≤ b ∧ b < z) (h : Mpar I a b) : ∀ C, CCong (UT tb z) C → RtS (I 137) z tb C → C (tb a) (tb b) := by
  intro C hC hS
  obtain ⟨h1, h2, h3, h4, h5⟩ := h
  rcases T.row4 ha.1 ha.2 h2 with ⟨a1, a2, a3, a4⟩ | ⟨a1, a2, a3, a4⟩
  · rcases T.row4 hb.1 hb.2 (by omega) with ⟨b1, b2, b3, b4⟩ | ⟨b1, b2, b3, b4⟩
    · rw [a4, b4]
      exact hC.2.2.2.1 _ _ ⟨a, ha.1, ha.2, a4⟩ ⟨b, hb.1, hb.2, b4⟩ (hS _ _ a2.1 (by omega) b2.1 (by omega) h4)
    · omega
  · rcases T.row4 hb.1 hb.2 (by omega) with ⟨b1, b2, b3, b4⟩ | ⟨b1, b2, b3, b4⟩
    · omega
    · rw [a4, b4]
      exact hC.2.2.2.2 _ _ _ _ ⟨a, ha.1, ha.2, a4⟩ ⟨b, hb.1, hb.2, b4⟩ (hS _ _ a2.1 (by omega) b2.1 (by omega) h4) (hS _ _ a3.1 (by omega) b3.1 (by omega) (h5.elim (fun q => by omega) id))
set_option maxRecDepth 100000 in
set_option maxHeartbeats 1000000 in
theorem MTab.fpart {I : PIm} {z : Int} {tb : Int → Tm} (T : MTab I z tb) {i l : Int} (i0 : 0 ≤ i) (i1 : i < z) (l0 : 0 ≤ l) (l1 : l < z) (e : tb i = tf (tb l)) : I 122 i = 4 ∧ I 123 i = l := by
  obtain ⟨u, v⟩ := T.2.1 i i0 i1
  by_cases q : i < 4
  · exact absurd ((u q).2.symm.trans e) tc_tf
  · rcases v (by omega) with ⟨a, b, c⟩ | ⟨a, b, c, f⟩
    · exact ⟨a.1, T.2.2 _ _ b.1 (by omega) l0 l1 (tf_inj (c.symm.trans e))⟩
    · exact absurd (e.symm.trans f) tf_tg
set_option maxRecDepth 100000 in
set_option maxHeartbeats 1000000 in
theorem MTab.gpart {I : PIm} {z : Int} {tb : Int → Tm} (T : MTab I z tb) {i l r : Int} (i0 : 0 ≤ i) (i1 : i < z) (l0 : 0 ≤ l) (l1 : l < z) (r0 : 0 ≤ r) (r1 : r < z) (e : tb i = tg (tb l) (tb r)) : I 122 i = 5 ∧ I 123 i = l ∧ I 124 i = r := by
  obtain ⟨u, v⟩ := T.2.1 i i0 i1
  by_cases q : i < 4
  · exact absurd ((u q).2.symm.trans e) tc_tg
  · rcases v (by omega) with ⟨a, b, c⟩ | ⟨a, b, c, f⟩
    · exact absurd (c.symm.trans e) tf_tg
    · have := tg_inj (f.symm.trans e)
      exact ⟨a.1, T.2.2 _ _ b.1 (by omega) l0 l1 this.1, T.2.2 _ _ c.1 (by omega) r0 r1 this.2⟩
set_option maxRecDepth 100000 in
set_option maxHeartbeats 1000000 in
theorem Mpar.closed {I : PIm} {z : Int} {tb : Int → Tm} (T : MTab I z tb) (h : ∀ a b, 0 ≤ a → a < z → 0 ≤ b → b < z → ¬ Mpar I a b) : RtC (I 137) z tb := by
  refine ⟨fun i j l m i0 i1 j0 j1 l0 l1 m0 m1 e1 e2 e3 => ?_, fun i j l m l' m' i0 i1 j0 j1 l0 l1 m0 m1 l0' l1' m0' m1' e1 e2 e3 e4 => ?_⟩
  · obtain ⟨p1, p2⟩ := T.fpart i0 i1 l0 l1 e1
    obtain ⟨q1, q2⟩ := T.fpart j0 j1 m0 m1 e2
    refine Classical.byContradiction fun o => h i j i0 i1 j0 j1 ⟨by omega, by omega, o, by rw [p2, q2]; exact e3, Or.inl p1⟩
  · obtain ⟨p1, p2, p3⟩ := T.gpart i0 i1 l0 l1 l0' l1' e1
    obtain ⟨q1, q2, q3⟩ := T.gpart j0 j1 m0 m1 m0' m1' e2
    refine Classical.byContradiction fun o => h i j i0 i1 j0 j1 ⟨by omega, by omega, o, by rw [p2, q2]; exact e3, Or.inr (by rw [p3, q3]; exact e4)⟩
/-- the facts in the reference's rows -/
def MFcts (I : PIm) (F : FS) (tb : Int → Tm) (z : Int) : Prop := I 112 1 = F.1 ∧ F.1 ≤ 6 ∧ ∀ k : Int, 0 ≤ k → k < F.1 → (I 113 k = 1 - F.2.1 k ∧ (F.2.1 k = 0 ∨ F.2.1 k = 1)) ∧ (0 ≤ I 114 k ∧ I 114 k < z ∧ tb (I 114 k) = F.2.2.1 k) ∧ (0 ≤ I 115 k ∧ I 115 k < z ∧ tb (I 115 k) = F.2.2.2 k)
set_option maxRecDepth 100000 in
set_option maxHeartbeats 1000000 in
theorem MFcts.cg {I I' : PIm} {F : FS} {tb tb' : Int → Tm} {z z' : Int} (h : MFcts I F tb z) (h1 : I' 112 1 = I 112 1) (he : ∀ q, 113 ≤ q → q ≤ 115 → I' q = I q) (hz : z ≤ z') (ht : ∀ j, 0 ≤ j → j < z → tb' j = tb j) : MFcts I' F tb' z' := by
  unfold MFcts at h ⊢
  rw [h1, he 113 (by omega) (by omega), he 114 (by omega) (by omega), he 115 (by omega) (by omega)]
  refine ⟨h.1, h.2.1, fun k k0 k1 => ?_⟩
  obtain ⟨a, ⟨b1, b2, b3⟩, c1, c2, c3⟩ := h.2.2 k k0 k1
  exact ⟨a, ⟨b1, by omega, by rw [ht _ b1 b2]; exact b3⟩, c1, by omega, by rw [ht _ c1 c2]; exact c3⟩
end MSAME
