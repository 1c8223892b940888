section MGOES
variable {sc : PSc} {Γ : List PTy} {R : PRm}
set_option maxRecDepth 100000 in
set_option maxHeartbeats 1000000 in
theorem lat_is (P : Int → Int) : ∀ (k : Nat) (r : Int), 0 ≤ lat P k r → mks P (lat P k r) r
  | 0, r, h => by unfold lat at h; omega
  | k + 1, r, h => by
    rw [lat] at h ⊢
    by_cases q : mks P (k : Int) r
    · rw [if_pos q]; exact q
    · rw [if_neg q] at h ⊢; exact lat_is P k r h
abbrev MMk (P : Int → Int) (lag fw w b : Int) : Int → Tm := Md P (MV P lag fw w b)
def MGd (I0 I : PIm) (tb0 tb : Int → Tm) (P : Int → Int) (lag fw w b : Int) (k : Nat) : Prop := MGrow I0 I tb0 tb (fun t => ∃ j : Int, 0 ≤ j ∧ j < k ∧ kd (P j) ≠ 0 ∧ t = MMk P lag fw w b j) ∧ I 112 13 ≤ I0 112 13 + k ∧ ∀ j : Int, 0 ≤ j → j < k → kd (P j) ≠ 0 → 0 ≤ I 139 j ∧ I 139 j < I 112 13 ∧ tb (I 139 j) = MMk P lag fw w b j
def MGoP (I0 I : PIm) (tb0 tb : Int → Tm) (P : Int → Int) (lag fw w b : Int) (n : Nat) : Prop := MGrow I0 I tb0 tb (fun t => ∃ j : Int, 0 ≤ j ∧ j < n ∧ kd (P j) ≠ 0 ∧ t = MMk P lag fw w b j) ∧ I 112 13 ≤ I0 112 13 + n ∧ (∀ q k, ¬ ((122 ≤ q ∧ q ≤ 124) ∨ (q = 112 ∧ k = 13) ∨ q = 139 ∨ (q = 140 ∧ 4 * b ≤ k ∧ k < 4 * b + 4)) → I q k = I0 q k) ∧ ∀ r : Int, 0 ≤ r → r < 4 → 0 ≤ I 140 (r + 4 * b) ∧ I 140 (r + 4 * b) < I 112 13 ∧ tb (I 140 (r + 4 * b)) = rdT P (MMk P lag fw w b) (fun _ => true) n r
set_option maxRecDepth 100000 in
set_option maxHeartbeats 1000000 in
theorem MGd.made {I0 I I' : PIm} {tb0 tb tb' : Int → Tm} {P : Int → Int} {lag fw w b : Int} {k : Nat} {i : Int} (G : MGd I0 I tb0 tb P lag fw w b k) (hk : kd (P (k : Int)) ≠ 0) (m : MMade I I' tb tb' (MMk P lag fw w b (k : Int)) i) : MGd I0 (pw_up I' 139 k i) tb0 tb' P lag fw w b (k + 1) := by
  obtain ⟨g1, g2, g3⟩ := G
  have x13 : pw_up I' 139 k i 112 13 = I' 112 13 := pw_up_other (by omega)
  refine ⟨(g1.made m (mks_step hk)).cg (fun q a b => pw_up_ne q (by omega)) x13, ?_, fun j j0 j1 jk => ?_⟩
  · have := m.2.2.2.1; rw [x13]; omega
  · rw [x13]
    by_cases e : j = (k : Int)
    · rw [e, pw_up_self]; exact ⟨m.1.1, m.1.2, m.2.1⟩
    · obtain ⟨u1, u2, u3⟩ := g3 j j0 (by omega) jk
      have e2 : I' 139 j = I 139 j := m.2.2.2.2.2.2 139 j (by omega)
      have := m.2.2.2.1
      rw [pw_up_other (by omega), e2]
      exact ⟨u1, by omega, by rw [m.2.2.2.2.1 _ u2]; exact u3⟩
set_option maxRecDepth 100000 in
set_option maxHeartbeats 1000000 in
theorem MGd.stay {I0 I : PIm} {tb0 tb : Int → Tm} {P : Int → Int} {lag fw w b : Int} {k : Nat} {i : Int} (G : MGd I0 I tb0 tb P lag fw w b k) (hk : kd (P (k : Int)) = 0) : MGd I0 (pw_up I 139 k i) tb0 tb P lag fw w b (k + 1) := by
  obtain ⟨g1, g2, g3⟩ := G
  have x13 : pw_up I 139 k i 112 13 = I 112 13 := pw_up_other (by omega)
  refine ⟨(g1.sub (mks_stay hk)).cg (fun q a b => pw_up_ne q (by omega)) x13, by rw [x13]; omega, fun j j0 j1 jk => ?_⟩
  by_cases e : j = (k : Int)
  · rw [e] at jk; exact absurd hk jk
  · rw [x13, pw_up_other (by omega)]; exact g3 j j0 (by omega) jk
set_option maxRecDepth 100000 in
set_option maxHeartbeats 1000000 in
theorem c_X11_goes (d : Nat) {I0 : PIm} {P : Int → Int} {n : Nat} {lag fw w b : Int} {tb0 : Int → Tm} (M : MAt Γ R) (hP : ProgM I0 P n) (hl : I0 116 26 = lag) (hl3 : 0 ≤ lag ∧ lag ≤ 3) (hb : b = 0 ∨ b = 1) (T : MTab I0 (I0 112 13) tb0) (hz : I0 112 13 + n ≤ 200) (hS : ∀ j : Int, 0 ≤ j → j < n → I0 138 j = St P lag fw w j) : PC sc mX11_goes (d + 3) 0 0 [.inr (some 112), .inl fw, .inl b] Γ I0 R (fun v Γ' I' R' => v = none ∧ Γ' = Γ ∧ R' = R ∧ ∃ tb', MGoP I0 I' tb0 tb' P lag fw w b n) := by
  have hn6 := hP.2.1
  have h4 := T.1
  have loop2 : ∀ (N r : Nat) (I : PIm) (tb : Int → Tm) (o1 o2 : Option PV), 4 - r = N → r ≤ 4 → MGd I0 I tb0 tb P lag fw w b n → (∀ q k, ¬ ((122 ≤ q ∧ q ≤ 124) ∨ (q = 112 ∧ k = 13) ∨ q = 139 ∨ (q = 140 ∧ 4 * b ≤ k ∧ k < 4 * b + 4)) → I q k = I0 q k) → (∀ r' : Int, 0 ≤ r' → r' < r → 0 ≤ I 140 (r' + 4 * b) ∧ I 140 (r' + 4 * b) < I 112 13 ∧ tb (I 140 (r' + 4 * b)) = rdT P (MMk P lag fw w b) (fun _ => true) n r') → PW sc mX11_goes (d + 3) 0 0 (fun v Γ' I' R' => v = none ∧ Γ' = Γ ∧ R' = R ∧ ∃ tb', MGoP I0 I' tb0 tb' P lag fw w b n) 101 [some (.inr (some 112)), some (.inl fw), some (.inl b), some (.inl (r : Int)), o1, o2] [] Γ I R := by
    intro N
    induction N using Nat.strongRecOn with
    | _ N ih =>
      intro r I tb o1 o2 hN hr G fr ha
      have e0 : I 116 0 = n := by rw [fr 116 0 (by omega)]; exact hP.1
      have PM : ProgM I P n := hP.cg (by funext z; exact fr 116 z (by omega))
      by_cases hr4 : r < 4
      · have lr := lat_rg P n (r : Int)
        have nx : ∀ (x v : Int) (o1 o2 : Option PV), x = r + 4 * b → (0 ≤ v ∧ v < I 112 13) → tb v = rdT P (MMk P lag fw w b) (fun _ => true) n r → PW sc mX11_goes (d + 3) 0 0 (fun v Γ' I' R' => v = none ∧ Γ' = Γ ∧ R' = R ∧ ∃ tb', MGoP I0 I' tb0 tb' P lag fw w b n) 101 [some (.inr (some 112)), some (.inl fw), some (.inl b), some (.inl ((r : Int) + 1)), o1, o2] [] Γ (pw_up I 140 x v) R := by
          rintro x v o1 o2 rfl hv ht
          have x13 : pw_up I 140 (r + 4 * b) v 112 13 = I 112 13 := pw_up_other (by omega)
          have x139 : ∀ j, pw_up I 140 (r + 4 * b) v 139 j = I 139 j := fun j => pw_up_other (by omega)
          refine ih (4 - (r + 1)) (by omega) (r + 1) _ tb o1 o2 rfl (by omega) ⟨G.1.cg (fun q a b => pw_up_ne q (by omega)) x13, by rw [x13]; exact G.2.1, fun j j0 j1 jk => by rw [x13, x139]; exact G.2.2 j j0 j1 jk⟩ (fun q k g => by rw [pw_up_other (by omega), fr q k g]) (fun r' r0 r1 => ?_)
          rw [x13]
          by_cases e : r' = (r : Int)
          · rw [e, pw_up_self]; exact ⟨hv.1, hv.2, ht⟩
          · rw [pw_up_other (by omega)]; exact ha r' r0 (by omega)
        have Tt := G.1.1
        have t4 := Tt.1
        have LT := c_X11_latest (sc := sc) (Γ := Γ) (R := R) (I := I) d M PM (k := n) (r := (r : Int)) (Nat.le_refl _) (by omega)
        by_cases ql : lat P n (r : Int) < 0
        · have ht : tb (r : Int) = rdT P (MMk P lag fw w b) (fun _ => true) n r := by rw [rdT_lat, if_pos ql]; exact Tt.const (by omega) (by omega)
          rcases hb with rfl | rfl
          · refine PW.iload_n (pc := 101) dX11_goes_101 rfl ?_
            refine PW.iconst (pc := 102) dX11_goes_102 ?_
            refine PW.icmp_ge (pc := 103) (tgt := 157) dX11_goes_103 (by decide) (by first | omega | exact rg_of _) (by first | omega | exact rg_of _) (fun c_103 => ?_) (fun c_103 => ?_)
            · omega
            · refine PW.aload_n (pc := 106) dX11_goes_106 rfl ?_
              refine PW.aload_n (pc := 107) dX11_goes_107 rfl ?_
              refine PW.getr (pc := 108) dX11_goes_108 fl_X11_20 M.g112 M.r5 ?_
              refine PW.iconst (pc := 111) dX11_goes_111 ?_
              refine PW.iald (pc := 112) dX11_goes_112 M.g116 (by omega) (by omega) (by omega) ?_
              rw [e0]
              refine PW.iload_n (pc := 113) dX11_goes_113 rfl ?_
              refine PW.invV0x (pc := 114) dX11_goes_114 mv_X11_196 (LT) M.g112 rfl rfl (Nat.le_of_ble_eq_true rfl) ?_
              refine PW.istore (pc := 117) dX11_goes_117 (by decide) ?_
              refine PW.aload_n (pc := 119) dX11_goes_119 rfl ?_
              refine PW.getr (pc := 120) dX11_goes_120 fl_X11_92 M.g112 M.r39 ?_
              refine PW.iload_n (pc := 123) dX11_goes_123 rfl ?_
              refine PW.iload_n (pc := 124) dX11_goes_124 rfl ?_
              refine PW.if_eq (pc := 125) (tgt := 132) dX11_goes_125 (by decide) (by first | omega | exact rg_of _) (fun c_125 => ?_) (fun c_125 => ?_)
              · refine PW.iconst (pc := 132) dX11_goes_132 ?_
                refine PW.iadd (pc := 133) dX11_goes_133 ?_
                refine PW.iload (pc := 134) dX11_goes_134 rfl ?_
                refine PW.if_ge (pc := 136) (tgt := 143) dX11_goes_136 (by decide) (by first | omega | exact rg_of _) (fun c_136 => ?_) (fun c_136 => ?_)
                · omega
                · refine PW.iload_n (pc := 139) dX11_goes_139 rfl ?_
                  refine PW.goto (pc := 140) (tgt := 150) dX11_goes_140 (by decide) ?_
                  refine PW.iast (pc := 150) dX11_goes_150 M.g140 (by omega) (by omega) (by omega) ?_
                  refine PW.iinc (pc := 151) dX11_goes_151 rfl (by decide) ?_
                  refine PW.goto (pc := 154) (tgt := 101) dX11_goes_154 (by decide) ?_
                  exact nx _ r _ _ (by omega) (by omega) ht
              · omega
          · refine PW.iload_n (pc := 101) dX11_goes_101 rfl ?_
            refine PW.iconst (pc := 102) dX11_goes_102 ?_
            refine PW.icmp_ge (pc := 103) (tgt := 157) dX11_goes_103 (by decide) (by first | omega | exact rg_of _) (by first | omega | exact rg_of _) (fun c_103 => ?_) (fun c_103 => ?_)
            · omega
            · refine PW.aload_n (pc := 106) dX11_goes_106 rfl ?_
              refine PW.aload_n (pc := 107) dX11_goes_107 rfl ?_
              refine PW.getr (pc := 108) dX11_goes_108 fl_X11_20 M.g112 M.r5 ?_
              refine PW.iconst (pc := 111) dX11_goes_111 ?_
              refine PW.iald (pc := 112) dX11_goes_112 M.g116 (by omega) (by omega) (by omega) ?_
              rw [e0]
              refine PW.iload_n (pc := 113) dX11_goes_113 rfl ?_
              refine PW.invV0x (pc := 114) dX11_goes_114 mv_X11_196 (LT) M.g112 rfl rfl (Nat.le_of_ble_eq_true rfl) ?_
              refine PW.istore (pc := 117) dX11_goes_117 (by decide) ?_
              refine PW.aload_n (pc := 119) dX11_goes_119 rfl ?_
              refine PW.getr (pc := 120) dX11_goes_120 fl_X11_92 M.g112 M.r39 ?_
              refine PW.iload_n (pc := 123) dX11_goes_123 rfl ?_
              refine PW.iload_n (pc := 124) dX11_goes_124 rfl ?_
              refine PW.if_eq (pc := 125) (tgt := 132) dX11_goes_125 (by decide) (by first | omega | exact rg_of _) (fun c_125 => ?_) (fun c_125 => ?_)
              · omega
              · refine PW.iconst (pc := 128) dX11_goes_128 ?_
                refine PW.goto (pc := 129) (tgt := 133) dX11_goes_129 (by decide) ?_
                refine PW.iadd (pc := 133) dX11_goes_133 ?_
                refine PW.iload (pc := 134) dX11_goes_134 rfl ?_
                refine PW.if_ge (pc := 136) (tgt := 143) dX11_goes_136 (by decide) (by first | omega | exact rg_of _) (fun c_136 => ?_) (fun c_136 => ?_)
                · omega
                · refine PW.iload_n (pc := 139) dX11_goes_139 rfl ?_
                  refine PW.goto (pc := 140) (tgt := 150) dX11_goes_140 (by decide) ?_
                  refine PW.iast (pc := 150) dX11_goes_150 M.g140 (by omega) (by omega) (by omega) ?_
                  refine PW.iinc (pc := 151) dX11_goes_151 rfl (by decide) ?_
                  refine PW.goto (pc := 154) (tgt := 101) dX11_goes_154 (by decide) ?_
                  exact nx _ r _ _ (by omega) (by omega) ht
        · obtain ⟨y1, y2, y3⟩ := G.2.2 (lat P n (r : Int)) (by omega) (by omega) (lat_is P n r (by omega)).1
          have ht : tb (I 139 (lat P n (r : Int))) = rdT P (MMk P lag fw w b) (fun _ => true) n r := by rw [rdT_lat, if_neg ql]; exact y3
          rcases hb with rfl | rfl
          · refine PW.iload_n (pc := 101) dX11_goes_101 rfl ?_
            refine PW.iconst (pc := 102) dX11_goes_102 ?_
            refine PW.icmp_ge (pc := 103) (tgt := 157) dX11_goes_103 (by decide) (by first | omega | exact rg_of _) (by first | omega | exact rg_of _) (fun c_103 => ?_) (fun c_103 => ?_)
            · omega
            · refine PW.aload_n (pc := 106) dX11_goes_106 rfl ?_
              refine PW.aload_n (pc := 107) dX11_goes_107 rfl ?_
              refine PW.getr (pc := 108) dX11_goes_108 fl_X11_20 M.g112 M.r5 ?_
              refine PW.iconst (pc := 111) dX11_goes_111 ?_
              refine PW.iald (pc := 112) dX11_goes_112 M.g116 (by omega) (by omega) (by omega) ?_
              rw [e0]
              refine PW.iload_n (pc := 113) dX11_goes_113 rfl ?_
              refine PW.invV0x (pc := 114) dX11_goes_114 mv_X11_196 (LT) M.g112 rfl rfl (Nat.le_of_ble_eq_true rfl) ?_
              refine PW.istore (pc := 117) dX11_goes_117 (by decide) ?_
              refine PW.aload_n (pc := 119) dX11_goes_119 rfl ?_
              refine PW.getr (pc := 120) dX11_goes_120 fl_X11_92 M.g112 M.r39 ?_
              refine PW.iload_n (pc := 123) dX11_goes_123 rfl ?_
              refine PW.iload_n (pc := 124) dX11_goes_124 rfl ?_
              refine PW.if_eq (pc := 125) (tgt := 132) dX11_goes_125 (by decide) (by first | omega | exact rg_of _) (fun c_125 => ?_) (fun c_125 => ?_)
              · refine PW.iconst (pc := 132) dX11_goes_132 ?_
                refine PW.iadd (pc := 133) dX11_goes_133 ?_
                refine PW.iload (pc := 134) dX11_goes_134 rfl ?_
                refine PW.if_ge (pc := 136) (tgt := 143) dX11_goes_136 (by decide) (by first | omega | exact rg_of _) (fun c_136 => ?_) (fun c_136 => ?_)
                · refine PW.aload_n (pc := 143) dX11_goes_143 rfl ?_
                  refine PW.getr (pc := 144) dX11_goes_144 fl_X11_89 M.g112 M.r38 ?_
                  refine PW.iload (pc := 147) dX11_goes_147 rfl ?_
                  refine PW.iald (pc := 149) dX11_goes_149 M.g139 (by omega) (by omega) (by omega) ?_
                  refine PW.iast (pc := 150) dX11_goes_150 M.g140 (by omega) (by omega) (by omega) ?_
                  refine PW.iinc (pc := 151) dX11_goes_151 rfl (by decide) ?_
                  refine PW.goto (pc := 154) (tgt := 101) dX11_goes_154 (by decide) ?_
                  exact nx _ _ _ _ (by omega) ⟨y1, y2⟩ ht
                · omega
              · omega
          · refine PW.iload_n (pc := 101) dX11_goes_101 rfl ?_
            refine PW.iconst (pc := 102) dX11_goes_102 ?_
            refine PW.icmp_ge (pc := 103) (tgt := 157) dX11_goes_103 (by decide) (by first | omega | exact rg_of _) (by first | omega | exact rg_of _) (fun c_103 => ?_) (fun c_103 => ?_)
            · omega
            · refine PW.aload_n (pc := 106) dX11_goes_106 rfl ?_
              refine PW.aload_n (pc := 107) dX11_goes_107 rfl ?_
              refine PW.getr (pc := 108) dX11_goes_108 fl_X11_20 M.g112 M.r5 ?_
              refine PW.iconst (pc := 111) dX11_goes_111 ?_
              refine PW.iald (pc := 112) dX11_goes_112 M.g116 (by omega) (by omega) (by omega) ?_
              rw [e0]
              refine PW.iload_n (pc := 113) dX11_goes_113 rfl ?_
              refine PW.invV0x (pc := 114) dX11_goes_114 mv_X11_196 (LT) M.g112 rfl rfl (Nat.le_of_ble_eq_true rfl) ?_
              refine PW.istore (pc := 117) dX11_goes_117 (by decide) ?_
              refine PW.aload_n (pc := 119) dX11_goes_119 rfl ?_
              refine PW.getr (pc := 120) dX11_goes_120 fl_X11_92 M.g112 M.r39 ?_
              refine PW.iload_n (pc := 123) dX11_goes_123 rfl ?_
              refine PW.iload_n (pc := 124) dX11_goes_124 rfl ?_
              refine PW.if_eq (pc := 125) (tgt := 132) dX11_goes_125 (by decide) (by first | omega | exact rg_of _) (fun c_125 => ?_) (fun c_125 => ?_)
              · omega
              · refine PW.iconst (pc := 128) dX11_goes_128 ?_
                refine PW.goto (pc := 129) (tgt := 133) dX11_goes_129 (by decide) ?_
                refine PW.iadd (pc := 133) dX11_goes_133 ?_
                refine PW.iload (pc := 134) dX11_goes_134 rfl ?_
                refine PW.if_ge (pc := 136) (tgt := 143) dX11_goes_136 (by decide) (by first | omega | exact rg_of _) (fun c_136 => ?_) (fun c_136 => ?_)
                · refine PW.aload_n (pc := 143) dX11_goes_143 rfl ?_
                  refine PW.getr (pc := 144) dX11_goes_144 fl_X11_89 M.g112 M.r38 ?_
                  refine PW.iload (pc := 147) dX11_goes_147 rfl ?_
                  refine PW.iald (pc := 149) dX11_goes_149 M.g139 (by omega) (by omega) (by omega) ?_
                  refine PW.iast (pc := 150) dX11_goes_150 M.g140 (by omega) (by omega) (by omega) ?_
                  refine PW.iinc (pc := 151) dX11_goes_151 rfl (by decide) ?_
                  refine PW.goto (pc := 154) (tgt := 101) dX11_goes_154 (by decide) ?_
                  exact nx _ _ _ _ (by omega) ⟨y1, y2⟩ ht
                · omega
      · obtain rfl : r = 4 := by omega
        refine PW.iload_n (pc := 101) dX11_goes_101 rfl ?_
        refine PW.iconst (pc := 102) dX11_goes_102 ?_
        refine PW.icmp_ge (pc := 103) (tgt := 157) dX11_goes_103 (by decide) (by first | omega | exact rg_of _) (by first | omega | exact rg_of _) (fun c_103 => ?_) (fun c_103 => ?_)
        · exact PW.vreturn (pc := 157) dX11_goes_157 rfl (⟨rfl, rfl, rfl, tb, G.1, G.2.1, fr, ha⟩)
        · omega
  have loop1 : ∀ (N k : Nat) (I : PIm) (tb : Int → Tm) (o1 o2 : Option PV), n - k = N → k ≤ n → MGd I0 I tb0 tb P lag fw w b k → (∀ q k, ¬ ((122 ≤ q ∧ q ≤ 124) ∨ (q = 112 ∧ k = 13) ∨ q = 139) → I q k = I0 q k) → PW sc mX11_goes (d + 3) 0 0 (fun v Γ' I' R' => v = none ∧ Γ' = Γ ∧ R' = R ∧ ∃ tb', MGoP I0 I' tb0 tb' P lag fw w b n) 2 [some (.inr (some 112)), some (.inl fw), some (.inl b), some (.inl (k : Int)), o1, o2] [] Γ I R := by
    intro N
    induction N using Nat.strongRecOn with
    | _ N ih =>
      intro k I tb o1 o2 hN hk G fr
      have e0 : I 116 0 = n := by rw [fr 116 0 (by omega)]; exact hP.1
      have PM : ProgM I P n := hP.cg (by funext z; exact fr 116 z (by omega))
      by_cases hlt : k < n
      · obtain ⟨q0, q1, q2, q3, q4⟩ := PM.2.2 k (by omega) (by omega)
        have s1 := ss_rg (P k)
        have s2 := tt_rg (P k)
        have s3 := kd_rg q0
        have Tt := G.1.1
        have g2 := G.2.1
        have Fs : ∀ j : Int, 0 ≤ j → j < n → I 138 j = St P lag fw w j := fun j j0 j1 => by rw [fr 138 j (by omega)]; exact hS j j0 j1
        have RB := fun (r : Int) (hr : 0 ≤ r ∧ r < 4) => c_X11_readBy (sc := sc) (Γ := Γ) (R := R) (I := I) d (fw := fw) (w := w) (b := b) M PM hlt (by rw [fr 116 26 (by omega)]; exact hl) hl3 hb hr Tt Fs G.2.2
        have ME : MMk P lag fw w b (k : Int) = mkT (kd (P (k : Int))) (rdT P (MMk P lag fw w b) (MV P lag fw w b (k : Int)) k (ss (P (k : Int)))) (rdT P (MMk P lag fw w b) (MV P lag fw w b (k : Int)) k (tt (P (k : Int)))) := Md_eq P (MV P lag fw w b) k
        refine PW.iload_n (pc := 2) dX11_goes_2 rfl ?_
        refine PW.aload_n (pc := 3) dX11_goes_3 rfl ?_
        refine PW.getr (pc := 4) dX11_goes_4 fl_X11_20 M.g112 M.r5 ?_
        refine PW.iconst (pc := 7) dX11_goes_7 ?_
        refine PW.iald (pc := 8) dX11_goes_8 M.g116 (by omega) (by omega) (by omega) ?_
        rw [e0]
        refine PW.icmp_ge (pc := 9) (tgt := 99) dX11_goes_9 (by decide) (by first | omega | exact rg_of _) (by first | omega | exact rg_of _) (fun c_9 => ?_) (fun c_9 => ?_)
        · omega
        · refine PW.aload_n (pc := 12) dX11_goes_12 rfl ?_
          refine PW.iload_n (pc := 13) dX11_goes_13 rfl ?_
          refine PW.aload_n (pc := 14) dX11_goes_14 rfl ?_
          refine PW.iload_n (pc := 15) dX11_goes_15 rfl ?_
          refine PW.iconst (pc := 16) dX11_goes_16 ?_
          refine PW.invV0x (pc := 17) dX11_goes_17 mv_X11_189 (c_X11_its _ M (by omega) (by omega)) M.g112 rfl rfl (Nat.le_of_ble_eq_true rfl) ?_
          rw [q3]
          refine PW.iload_n (pc := 20) dX11_goes_20 rfl ?_
          refine PW.iload_n (pc := 21) dX11_goes_21 rfl ?_
          refine PW.invV0 (pc := 22) dX11_goes_22 mv_X11_209 (RB _ (by omega)) M.g112 rfl rfl (Nat.le_of_ble_eq_true rfl) ?_
          (rintro v Γ' I' R' ⟨rfl, rfl, rfl, ia, rfl, ha1, ha2⟩)
          refine PW.istore (pc := 25) dX11_goes_25 (by decide) ?_
          refine PW.aload_n (pc := 27) dX11_goes_27 rfl ?_
          refine PW.iload_n (pc := 28) dX11_goes_28 rfl ?_
          refine PW.aload_n (pc := 29) dX11_goes_29 rfl ?_
          refine PW.iload_n (pc := 30) dX11_goes_30 rfl ?_
          refine PW.iconst (pc := 31) dX11_goes_31 ?_
          refine PW.invV0x (pc := 32) dX11_goes_32 mv_X11_189 (c_X11_its _ M (by omega) (by omega)) M.g112 rfl rfl (Nat.le_of_ble_eq_true rfl) ?_
          rw [q4]
          refine PW.iload_n (pc := 35) dX11_goes_35 rfl ?_
          refine PW.iload_n (pc := 36) dX11_goes_36 rfl ?_
          refine PW.invV0 (pc := 37) dX11_goes_37 mv_X11_209 (RB _ (by omega)) M.g112 rfl rfl (Nat.le_of_ble_eq_true rfl) ?_
          (rintro v Γ' I2 R' ⟨rfl, rfl, rfl, ib, rfl, hb1, hb2⟩)
          refine PW.istore (pc := 40) dX11_goes_40 (by decide) ?_
          refine PW.aload_n (pc := 42) dX11_goes_42 rfl ?_
          refine PW.getr (pc := 43) dX11_goes_43 fl_X11_89 M.g112 M.r38 ?_
          refine PW.iload_n (pc := 46) dX11_goes_46 rfl ?_
          refine PW.aload_n (pc := 47) dX11_goes_47 rfl ?_
          refine PW.iload_n (pc := 48) dX11_goes_48 rfl ?_
          refine PW.iconst (pc := 49) dX11_goes_49 ?_
          refine PW.invV0x (pc := 50) dX11_goes_50 mv_X11_189 (c_X11_its _ M (by omega) (by omega)) M.g112 rfl rfl (Nat.le_of_ble_eq_true rfl) ?_
          rw [q1]
          refine PW.if_ne (pc := 53) (tgt := 61) dX11_goes_53 (by decide) (by first | omega | exact rg_of _) (fun c_53 => ?_) (fun c_53 => ?_)
          · refine PW.aload_n (pc := 61) dX11_goes_61 rfl ?_
            refine PW.iload_n (pc := 62) dX11_goes_62 rfl ?_
            refine PW.iconst (pc := 63) dX11_goes_63 ?_
            refine PW.invV0x (pc := 64) dX11_goes_64 mv_X11_189 (c_X11_its _ M (by omega) (by omega)) M.g112 rfl rfl (Nat.le_of_ble_eq_true rfl) ?_
            rw [q1]
            refine PW.iconst (pc := 67) dX11_goes_67 ?_
            refine PW.icmp_ne (pc := 68) (tgt := 83) dX11_goes_68 (by decide) (by first | omega | exact rg_of _) (by first | omega | exact rg_of _) (fun c_68 => ?_) (fun c_68 => ?_)
            · refine PW.aload_n (pc := 83) dX11_goes_83 rfl ?_
              refine PW.iconst (pc := 84) dX11_goes_84 ?_
              refine PW.iload (pc := 85) dX11_goes_85 rfl ?_
              refine PW.iload (pc := 87) dX11_goes_87 rfl ?_
              refine PW.invV0 (pc := 89) dX11_goes_89 mv_X11_115 (c_X11_nodeG _ M Tt (by omega) ha1 hb1) M.g112 rfl rfl (Nat.le_of_ble_eq_true rfl) ?_
              (rintro v Γ' I3 R' ⟨rfl, rfl, i, tb', rfl, mm⟩; rw [ha2, hb2, show tg (rdT P (MMk P lag fw w b) (MV P lag fw w b k) k (ss (P k))) (rdT P (MMk P lag fw w b) (MV P lag fw w b k) k (tt (P k))) = MMk P lag fw w b k by rw [ME]; unfold mkT; rw [if_neg c_68]] at mm)
              refine PW.iast (pc := 92) dX11_goes_92 M.g139 (by omega) (by omega) (by omega) ?_
              refine PW.iinc (pc := 93) dX11_goes_93 rfl (by decide) ?_
              refine PW.goto (pc := 96) (tgt := 2) dX11_goes_96 (by decide) ?_
              first
              | exact ih (n - (k + 1)) (by omega) (k + 1) _ tb _ _ rfl (by omega) (G.stay c_53) (fun q k g => by rw [pw_up_other (by omega), fr q k g])
              | exact ih (n - (k + 1)) (by omega) (k + 1) _ tb' _ _ rfl (by omega) (G.made c_53 mm) (fun q k g => by rw [pw_up_other (by omega), mm.2.2.2.2.2.2 q k (by omega), fr q k g])
            · refine PW.aload_n (pc := 71) dX11_goes_71 rfl ?_
              refine PW.iconst (pc := 72) dX11_goes_72 ?_
              refine PW.iload (pc := 73) dX11_goes_73 rfl ?_
              refine PW.bipush (pc := 75) dX11_goes_75 (by decide) ?_
              refine PW.invV0 (pc := 77) dX11_goes_77 mv_X11_115 (c_X11_nodeF _ M Tt (by omega) ha1) M.g112 rfl rfl (Nat.le_of_ble_eq_true rfl) ?_
              (rintro v Γ' I3 R' ⟨rfl, rfl, i, tb', rfl, mm⟩; rw [ha2, show tf (rdT P (MMk P lag fw w b) (MV P lag fw w b k) k (ss (P k))) = MMk P lag fw w b k by rw [ME]; unfold mkT; rw [if_pos c_68]] at mm)
              refine PW.goto (pc := 80) (tgt := 92) dX11_goes_80 (by decide) ?_
              refine PW.iast (pc := 92) dX11_goes_92 M.g139 (by omega) (by omega) (by omega) ?_
              refine PW.iinc (pc := 93) dX11_goes_93 rfl (by decide) ?_
              refine PW.goto (pc := 96) (tgt := 2) dX11_goes_96 (by decide) ?_
              first
              | exact ih (n - (k + 1)) (by omega) (k + 1) _ tb _ _ rfl (by omega) (G.stay c_53) (fun q k g => by rw [pw_up_other (by omega), fr q k g])
              | exact ih (n - (k + 1)) (by omega) (k + 1) _ tb' _ _ rfl (by omega) (G.made c_53 mm) (fun q k g => by rw [pw_up_other (by omega), mm.2.2.2.2.2.2 q k (by omega), fr q k g])
          · refine PW.bipush (pc := 56) dX11_goes_56 (by decide) ?_
            refine PW.goto (pc := 58) (tgt := 92) dX11_goes_58 (by decide) ?_
            refine PW.iast (pc := 92) dX11_goes_92 M.g139 (by omega) (by omega) (by omega) ?_
            refine PW.iinc (pc := 93) dX11_goes_93 rfl (by decide) ?_
            refine PW.goto (pc := 96) (tgt := 2) dX11_goes_96 (by decide) ?_
            first
            | exact ih (n - (k + 1)) (by omega) (k + 1) _ tb _ _ rfl (by omega) (G.stay c_53) (fun q k g => by rw [pw_up_other (by omega), fr q k g])
            | exact ih (n - (k + 1)) (by omega) (k + 1) _ tb' _ _ rfl (by omega) (G.made c_53 mm) (fun q k g => by rw [pw_up_other (by omega), mm.2.2.2.2.2.2 q k (by omega), fr q k g])
      · obtain rfl : k = n := by omega
        refine PW.iload_n (pc := 2) dX11_goes_2 rfl ?_
        refine PW.aload_n (pc := 3) dX11_goes_3 rfl ?_
        refine PW.getr (pc := 4) dX11_goes_4 fl_X11_20 M.g112 M.r5 ?_
        refine PW.iconst (pc := 7) dX11_goes_7 ?_
        refine PW.iald (pc := 8) dX11_goes_8 M.g116 (by omega) (by omega) (by omega) ?_
        rw [e0]
        refine PW.icmp_ge (pc := 9) (tgt := 99) dX11_goes_9 (by decide) (by first | omega | exact rg_of _) (by first | omega | exact rg_of _) (fun c_9 => ?_) (fun c_9 => ?_)
        · refine PW.iconst (pc := 99) dX11_goes_99 ?_
          refine PW.istore_n (pc := 100) dX11_goes_100 (by decide) ?_
          exact loop2 4 0 I tb _ _ rfl (by omega) G (fun q k g => fr q k (by omega)) (fun r' r0 r1 => by omega)
        · omega
  refine PC.ofPW (by decide) (Nat.le_of_ble_eq_true rfl) ?_
  refine PW.iconst (pc := 0) dX11_goes_0 ?_
  refine PW.istore_n (pc := 1) dX11_goes_1 (by decide) ?_
  exact loop1 n 0 I0 tb0 _ _ rfl (by omega) ⟨⟨T, Int.le_refl _, fun _ _ => rfl, fun j _ h1 => Or.inl h1, fun t h => by obtain ⟨j, j0, j1, -⟩ := h; omega⟩, by omega, fun j j0 j1 => by omega⟩ (fun _ _ _ => rfl)
end MGOES
