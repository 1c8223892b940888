section MREADS
variable {sc : PSc} {Γ : List PTy} {R : PRm}
/-- a reading under way: what stands open, what has grown -/
def RTi (I0 I : PIm) (tb0 tb : Int → Tm) (p : Int) (st : List Fr) (S : Tm → Prop) : Prop := (∀ q z, ¬ ((q = 112 ∧ (z = 13 ∨ z = 22 ∨ z = 23 ∨ z = 24)) ∨ (122 ≤ q ∧ q ≤ 124) ∨ q = 132 ∨ q = 133) → I q z = I0 q z) ∧ I 112 22 = p ∧ SkOK I tb (I 112 13) st ∧ MGr I0 I tb0 tb S ∧ I 112 13 + (st.length : Int) ≤ 4 + p
set_option maxRecDepth 100000 in
set_option maxHeartbeats 1000000 in
theorem RTi.take {I0 I I2 : PIm} {tb0 tb : Int → Tm} {tx : Int → Int} {n p p' : Int} {st : List Fr} {S : Tm → Prop} (h : RTi I0 I tb0 tb p st S) (k : Tks I I2 tx n p) (hp : nxt tx n p = p') (hl : p ≤ p') : RTi I0 I2 tb0 tb p' st S := by
  obtain ⟨fr, e22, sk, G, z4⟩ := h
  obtain ⟨k1, k2, k3, k4⟩ := k
  have y13 := k4 112 13 (by omega)
  refine ⟨fun q z g => by rw [k4 q z (by omega), fr q z g], by rw [k1, hp], ?_, G.cg (fun q z g => k4 q z (by omega)), by omega⟩
  rw [y13]
  exact SkOK.cg (Int.le_refl _) (fun _ _ => rfl) st sk (fun k _ _ => ⟨k4 132 k (by omega), k4 133 k (by omega)⟩)
set_option maxRecDepth 100000 in
set_option maxHeartbeats 1000000 in
theorem RTi.push {I0 I : PIm} {tb0 tb : Int → Tm} {p h : Int} {st : List Fr} {fr : Fr} (hf : (fr = none ∧ h = 4) ∨ (fr = some none ∧ h = 5)) (r : RTi I0 I tb0 tb p st (stS st)) (hz : I 112 13 + (st.length : Int) + 1 ≤ 4 + p) : RTi I0 (pw_up (pw_up I 132 (st.length : Int) h) 133 (st.length : Int) (-9)) tb0 tb p (fr :: st) (stS (fr :: st)) := by
  obtain ⟨f, e22, sk, G, z4⟩ := r
  have y : ∀ q z, q ≠ 132 → q ≠ 133 → pw_up (pw_up I 132 (st.length : Int) h) 133 (st.length : Int) (-9) q z = I q z := fun q z a b => by rw [pw_up_other (by omega), pw_up_other (by omega)]
  have y2 : pw_up (pw_up I 132 (st.length : Int) h) 133 (st.length : Int) (-9) 132 (st.length : Int) = h := by rw [pw_up_other (by omega), pw_up_self]
  have y3 : pw_up (pw_up I 132 (st.length : Int) h) 133 (st.length : Int) (-9) 133 (st.length : Int) = -9 := pw_up_self _ _ _ _
  have y4 : ∀ k : Int, 0 ≤ k → k < (st.length : Int) → pw_up (pw_up I 132 (st.length : Int) h) 133 (st.length : Int) (-9) 132 k = I 132 k ∧ pw_up (pw_up I 132 (st.length : Int) h) 133 (st.length : Int) (-9) 133 k = I 133 k := fun k k0 k1 => ⟨by rw [pw_up_other (by omega), pw_up_other (by omega)], by rw [pw_up_other (by omega), pw_up_other (by omega)]⟩
  generalize pw_up (pw_up I 132 (st.length : Int) h) 133 (st.length : Int) (-9) = J at *
  have j13 := y 112 13 (by omega) (by omega)
  have sk2 : SkOK J tb (J 112 13) st := by rw [j13]; exact SkOK.cg (Int.le_refl _) (fun _ _ => rfl) st sk y4
  have G2 : MGr I0 J tb0 tb (stS st) := G.cg (fun q z g => y q z (by omega) (by omega))
  have hl : (((fr :: st).length : Nat) : Int) = (st.length : Int) + 1 := by rw [List.length_cons]; omega
  refine ⟨fun q z g => by rw [y q z (by omega) (by omega), f q z g], by rw [y _ _ (by omega) (by omega)]; exact e22, ?_, ?_, by rw [hl, j13]; omega⟩
  · rcases hf with ⟨rfl, rfl⟩ | ⟨rfl, rfl⟩
    · exact ⟨y2, sk2⟩
    · exact ⟨⟨y2, y3⟩, sk2⟩
  · rcases hf with ⟨rfl, rfl⟩ | ⟨rfl, rfl⟩
    · exact G2.iff (fun u => Iff.rfl)
    · exact G2.iff (fun u => Iff.rfl)
set_option maxRecDepth 100000 in
set_option maxHeartbeats 1000000 in
theorem RTi.made {I0 I I' : PIm} {tb0 tb tb' : Int → Tm} {p i : Int} {st : List Fr} {fr : Fr} {S S' : Tm → Prop} {t : Tm} (r : RTi I0 I tb0 tb p (fr :: st) S) (sk : SkOK I tb (I 112 13) st) (m : MMade I I' tb tb' t i) (hS : ∀ u, S' u ↔ u = t ∨ S u) : RTi I0 I' tb0 tb' p st S' := by
  obtain ⟨f, e22, -, G, z4⟩ := r
  have hl : (((fr :: st).length : Nat) : Int) = (st.length : Int) + 1 := by rw [List.length_cons]; omega
  rw [hl] at z4
  have G2 := G.made m hS
  obtain ⟨m1, m2, m3, m4, m5, m6, m7⟩ := m
  exact ⟨fun q z g => by rw [m7 q z (by omega), f q z g], by rw [m7 _ _ (by omega)]; exact e22, SkOK.cg m4.1 m5 st sk (fun k _ _ => ⟨m7 132 k (by omega), m7 133 k (by omega)⟩), G2, by omega⟩
set_option maxRecDepth 100000 in
set_option maxHeartbeats 1000000 in
/-- a term is whole: what stands open is closed, as far as may be -/
theorem lp_close (d : Nat) {I0 : PIm} {tb0 : Int → Tm} {tx : Int → Int} {n p : Int} {res : Option Tm × Int} (M : MAt Γ R) (hp : 0 ≤ p ∧ p ≤ 100) (OUT : ∀ (st : List Fr) (k : Int) (I : PIm) (tb : Int → Tm) (o4 o5 : Option PV), k = (st.length : Int) → st.length ≤ 4 → RTi I0 I tb0 tb p st (stS st) → ctn tx n st (pT tx n (4 - st.length) p) = res → PW sc mX11_readsTerm (d + 1) 0 0 (MRTp Γ R I0 tb0 res) 7 [some (.inr (some 112)), some (.inl k), some (.inl (-9)), some (.inl 0), o4, o5] [] Γ I R) : ∀ (st : List Fr) (k i : Int) (I : PIm) (tb : Int → Tm) (a : Tm), k = (st.length : Int) → st.length ≤ 4 → RTi I0 I tb0 tb p st (fun u => stS st u ∨ sub u a) → (0 ≤ i ∧ i < I 112 13 ∧ tb i = a) → ctn tx n st (some a, p) = res → PW sc mX11_readsTerm (d + 1) 0 0 (MRTp Γ R I0 tb0 res) 112 [some (.inr (some 112)), some (.inl k), some (.inl (-9)), some (.inl 0), some (.inl i), some (.inl 1)] [] Γ I R := by
  intro st
  induction st with
  | nil =>
    intro k i I tb a hk hl RI hi hc
    obtain ⟨i0, i1, i2⟩ := hi
    have hk0 : k = 0 := hk
    obtain ⟨fr, e22, -, G, z4⟩ := RI
    have z5 : I 112 13 ≤ 4 + p := by have : I 112 13 + ((0 : Nat) : Int) ≤ 4 + p := z4; omega
    rw [← hc]
    refine PW.iload_n (pc := 112) dX11_readsTerm_112 rfl ?_
    refine PW.if_le (pc := 113) (tgt := 205) dX11_readsTerm_113 (by decide) (by first | omega | exact rg_of _) (fun c_113 => ?_) (fun c_113 => ?_)
    · refine PW.iload (pc := 205) dX11_readsTerm_205 rfl ?_
      refine PW.if_eq (pc := 207) (tgt := 215) dX11_readsTerm_207 (by decide) (by first | omega | exact rg_of _) (fun c_207 => ?_) (fun c_207 => ?_)
      · omega
      · refine PW.iload (pc := 210) dX11_readsTerm_210 rfl ?_
        refine PW.goto (pc := 212) (tgt := 217) dX11_readsTerm_212 (by decide) ?_
        refine PW.istore_n (pc := 217) dX11_readsTerm_217 (by decide) ?_
        refine PW.goto (pc := 218) (tgt := 7) dX11_readsTerm_218 (by decide) ?_
        refine PW.iload_n (pc := 7) dX11_readsTerm_7 rfl ?_
        refine PW.bipush (pc := 8) dX11_readsTerm_8 (by decide) ?_
        refine PW.icmp_ne (pc := 10) (tgt := 226) dX11_readsTerm_10 (by decide) (by first | omega | exact rg_of _) (by first | omega | exact rg_of _) (fun c_10 => ?_) (fun c_10 => ?_)
        · refine PW.iload_n (pc := 226) dX11_readsTerm_226 rfl ?_
          exact PW.ireturn (pc := 227) dX11_readsTerm_227 rfl (⟨rfl, rfl, fr, i, tb, rfl, ⟨i0, i1, i2⟩, e22, G.iff (fun u => ⟨Or.inr, fun w => w.elim (fun w => w.elim) id⟩), z5⟩)
        · omega
    · omega
  | cons fr st ih =>
    intro k i I tb a hk hl RI hi hc
    obtain ⟨i0, i1, i2⟩ := hi
    have hk1 : k = (st.length : Int) + 1 := by rw [hk, List.length_cons]; omega
    have hl1 : st.length + 1 ≤ 4 := by rw [List.length_cons] at hl; exact hl
    have ed : k - 1 = (st.length : Int) := by omega
    have ei : k + -1 = (st.length : Int) := by omega
    have z5 : I 112 13 + ((st.length : Int) + 1) ≤ 4 + p := by have := RI.2.2.2.2; rw [List.length_cons] at this; omega
    have sk := RI.2.2.1
    have G := RI.2.2.2.1
    rcases fr with _ | _ | l
    · obtain ⟨hh, sk'⟩ := sk
      have NF := c_X11_nodeF (sc := sc) (Γ := Γ) (R := R) d M G.1 (by omega) ⟨i0, i1⟩
      refine PW.iload_n (pc := 112) dX11_readsTerm_112 rfl ?_
      refine PW.if_le (pc := 113) (tgt := 205) dX11_readsTerm_113 (by decide) (by first | omega | exact rg_of _) (fun c_113 => ?_) (fun c_113 => ?_)
      · omega
      · refine PW.iload (pc := 116) dX11_readsTerm_116 rfl ?_
        refine PW.if_eq (pc := 118) (tgt := 205) dX11_readsTerm_118 (by decide) (by first | omega | exact rg_of _) (fun c_118 => ?_) (fun c_118 => ?_)
        · omega
        · refine PW.aload_n (pc := 121) dX11_readsTerm_121 rfl ?_
          refine PW.getr (pc := 122) dX11_readsTerm_122 fl_X11_68 M.g112 M.r31 ?_
          refine PW.iload_n (pc := 125) dX11_readsTerm_125 rfl ?_
          refine PW.iconst (pc := 126) dX11_readsTerm_126 ?_
          refine PW.isub (pc := 127) dX11_readsTerm_127 ?_
          rw [ed]
          refine PW.iald (pc := 128) dX11_readsTerm_128 M.g132 (by omega) (by omega) (by omega) ?_
          rw [hh]
          refine PW.iconst (pc := 129) dX11_readsTerm_129 ?_
          refine PW.icmp_ne (pc := 130) (tgt := 162) dX11_readsTerm_130 (by decide) (by first | omega | exact rg_of _) (by first | omega | exact rg_of _) (fun c_130 => ?_) (fun c_130 => ?_)
          · refine PW.iinc (pc := 162) dX11_readsTerm_162 rfl (by decide) ?_
            rw [ei]
            refine PW.aload_n (pc := 165) dX11_readsTerm_165 rfl ?_
            refine PW.getr (pc := 166) dX11_readsTerm_166 fl_X11_68 M.g112 M.r31 ?_
            refine PW.iload_n (pc := 169) dX11_readsTerm_169 rfl ?_
            refine PW.iald (pc := 170) dX11_readsTerm_170 M.g132 (by omega) (by omega) (by omega) ?_
            rw [hh]
            refine PW.iconst (pc := 171) dX11_readsTerm_171 ?_
            refine PW.icmp_ne (pc := 172) (tgt := 187) dX11_readsTerm_172 (by decide) (by first | omega | exact rg_of _) (by first | omega | exact rg_of _) (fun c_172 => ?_) (fun c_172 => ?_)
            · omega
            · refine PW.aload_n (pc := 175) dX11_readsTerm_175 rfl ?_
              refine PW.iconst (pc := 176) dX11_readsTerm_176 ?_
              refine PW.iload (pc := 177) dX11_readsTerm_177 rfl ?_
              refine PW.bipush (pc := 179) dX11_readsTerm_179 (by decide) ?_
              refine PW.invV0 (pc := 181) dX11_readsTerm_181 mv_X11_115 (NF) M.g112 rfl rfl (Nat.le_of_ble_eq_true rfl) ?_
              (rintro v Γ' I' R' ⟨rfl, rfl, i', tb', rfl, hM⟩)
              rw [i2] at hM
              have RM := RI.made sk' hM (S' := fun u => stS st u ∨ sub u (tf a)) (fun u => by rw [sub_tf]; exact or_left_comm)
              refine PW.goto (pc := 184) (tgt := 200) dX11_readsTerm_184 (by decide) ?_
              refine PW.istore (pc := 200) dX11_readsTerm_200 (by decide) ?_
              refine PW.goto (pc := 202) (tgt := 112) dX11_readsTerm_202 (by decide) ?_
              exact ih (st.length : Int) i' I' tb' (tf a) rfl (by omega) RM ⟨hM.1.1, hM.1.2, hM.2.1⟩ hc
          · omega
    · obtain ⟨⟨hh, hlf⟩, sk'⟩ := sk
      have y : ∀ q z, q ≠ 133 → pw_up I 133 (st.length : Int) i q z = I q z := fun q z a => by rw [pw_up_other (by omega)]
      have y3 : pw_up I 133 (st.length : Int) i 133 (st.length : Int) = i := pw_up_self _ _ _ _
      have y4 : ∀ k : Int, 0 ≤ k → k < (st.length : Int) → pw_up I 133 (st.length : Int) i 132 k = I 132 k ∧ pw_up I 133 (st.length : Int) i 133 k = I 133 k := fun k k0 k1 => ⟨by rw [pw_up_other (by omega)], by rw [pw_up_other (by omega)]⟩
      have j13 := y 112 13 (by omega)
      have RJ : RTi I0 (pw_up I 133 (st.length : Int) i) tb0 tb p (some (some a) :: st) (stS (some (some a) :: st)) := by
        obtain ⟨f, e22, -, -, -⟩ := RI
        refine ⟨fun q z g => by rw [y q z (by omega), f q z g], by rw [y _ _ (by omega)]; exact e22, ⟨⟨by rw [y _ _ (by omega)]; exact hh, by rw [y3]; exact i0, by rw [y3, j13]; exact i1, by rw [y3]; exact i2⟩, ?_⟩, (G.cg (fun q z g => y q z (by omega))).iff (fun u => ⟨fun w => w.elim Or.inr Or.inl, fun w => w.elim Or.inr Or.inl⟩), by rw [List.length_cons, j13]; omega⟩
        rw [j13]
        exact SkOK.cg (Int.le_refl _) (fun _ _ => rfl) st sk' y4
      have K2 : PW sc mX11_readsTerm (d + 1) 0 0 (MRTp Γ R I0 tb0 res) 112 [some (.inr (some 112)), some (.inl k), some (.inl (-9)), some (.inl 0), some (.inl i), some (.inl 0)] [] Γ (pw_up I 133 (st.length : Int) i) R := by
        refine PW.iload_n (pc := 112) dX11_readsTerm_112 rfl ?_
        refine PW.if_le (pc := 113) (tgt := 205) dX11_readsTerm_113 (by decide) (by first | omega | exact rg_of _) (fun c_113 => ?_) (fun c_113 => ?_)
        · omega
        · refine PW.iload (pc := 116) dX11_readsTerm_116 rfl ?_
          refine PW.if_eq (pc := 118) (tgt := 205) dX11_readsTerm_118 (by decide) (by first | omega | exact rg_of _) (fun c_118 => ?_) (fun c_118 => ?_)
          · refine PW.iload (pc := 205) dX11_readsTerm_205 rfl ?_
            refine PW.if_eq (pc := 207) (tgt := 215) dX11_readsTerm_207 (by decide) (by first | omega | exact rg_of _) (fun c_207 => ?_) (fun c_207 => ?_)
            · refine PW.bipush (pc := 215) dX11_readsTerm_215 (by decide) ?_
              refine PW.istore_n (pc := 217) dX11_readsTerm_217 (by decide) ?_
              refine PW.goto (pc := 218) (tgt := 7) dX11_readsTerm_218 (by decide) ?_
              exact OUT (some (some a) :: st) k _ tb _ _ (by rw [List.length_cons]; omega) (by rw [List.length_cons]; omega) RJ (by rw [List.length_cons, show 4 - (st.length + 1) = 3 - st.length by omega]; exact ctn_gl.trans hc)
            · omega
          · omega
      refine PW.iload_n (pc := 112) dX11_readsTerm_112 rfl ?_
      refine PW.if_le (pc := 113) (tgt := 205) dX11_readsTerm_113 (by decide) (by first | omega | exact rg_of _) (fun c_113 => ?_) (fun c_113 => ?_)
      · omega
      · refine PW.iload (pc := 116) dX11_readsTerm_116 rfl ?_
        refine PW.if_eq (pc := 118) (tgt := 205) dX11_readsTerm_118 (by decide) (by first | omega | exact rg_of _) (fun c_118 => ?_) (fun c_118 => ?_)
        · omega
        · refine PW.aload_n (pc := 121) dX11_readsTerm_121 rfl ?_
          refine PW.getr (pc := 122) dX11_readsTerm_122 fl_X11_68 M.g112 M.r31 ?_
          refine PW.iload_n (pc := 125) dX11_readsTerm_125 rfl ?_
          refine PW.iconst (pc := 126) dX11_readsTerm_126 ?_
          refine PW.isub (pc := 127) dX11_readsTerm_127 ?_
          rw [ed]
          refine PW.iald (pc := 128) dX11_readsTerm_128 M.g132 (by omega) (by omega) (by omega) ?_
          rw [hh]
          refine PW.iconst (pc := 129) dX11_readsTerm_129 ?_
          refine PW.icmp_ne (pc := 130) (tgt := 162) dX11_readsTerm_130 (by decide) (by first | omega | exact rg_of _) (by first | omega | exact rg_of _) (fun c_130 => ?_) (fun c_130 => ?_)
          · omega
          · refine PW.aload_n (pc := 133) dX11_readsTerm_133 rfl ?_
            refine PW.getr (pc := 134) dX11_readsTerm_134 fl_X11_71 M.g112 M.r32 ?_
            refine PW.iload_n (pc := 137) dX11_readsTerm_137 rfl ?_
            refine PW.iconst (pc := 138) dX11_readsTerm_138 ?_
            refine PW.isub (pc := 139) dX11_readsTerm_139 ?_
            rw [ed]
            refine PW.iald (pc := 140) dX11_readsTerm_140 M.g133 (by omega) (by omega) (by omega) ?_
            rw [hlf]
            refine PW.bipush (pc := 141) dX11_readsTerm_141 (by decide) ?_
            refine PW.icmp_ne (pc := 143) (tgt := 162) dX11_readsTerm_143 (by decide) (by first | omega | exact rg_of _) (by first | omega | exact rg_of _) (fun c_143 => ?_) (fun c_143 => ?_)
            · omega
            · refine PW.aload_n (pc := 146) dX11_readsTerm_146 rfl ?_
              refine PW.getr (pc := 147) dX11_readsTerm_147 fl_X11_71 M.g112 M.r32 ?_
              refine PW.iload_n (pc := 150) dX11_readsTerm_150 rfl ?_
              refine PW.iconst (pc := 151) dX11_readsTerm_151 ?_
              refine PW.isub (pc := 152) dX11_readsTerm_152 ?_
              refine PW.iload (pc := 153) dX11_readsTerm_153 rfl ?_
              rw [ed]
              refine PW.iast (pc := 155) dX11_readsTerm_155 M.g133 (by omega) (by omega) (by omega) ?_
              refine PW.iconst (pc := 156) dX11_readsTerm_156 ?_
              refine PW.istore (pc := 157) dX11_readsTerm_157 (by decide) ?_
              refine PW.goto (pc := 159) (tgt := 112) dX11_readsTerm_159 (by decide) ?_
              exact K2
    · obtain ⟨⟨hh, l0, l1, l2⟩, sk'⟩ := sk
      have NG := c_X11_nodeG (sc := sc) (Γ := Γ) (R := R) d M G.1 (by omega) ⟨l0, l1⟩ ⟨i0, i1⟩
      refine PW.iload_n (pc := 112) dX11_readsTerm_112 rfl ?_
      refine PW.if_le (pc := 113) (tgt := 205) dX11_readsTerm_113 (by decide) (by first | omega | exact rg_of _) (fun c_113 => ?_) (fun c_113 => ?_)
      · omega
      · refine PW.iload (pc := 116) dX11_readsTerm_116 rfl ?_
        refine PW.if_eq (pc := 118) (tgt := 205) dX11_readsTerm_118 (by decide) (by first | omega | exact rg_of _) (fun c_118 => ?_) (fun c_118 => ?_)
        · omega
        · refine PW.aload_n (pc := 121) dX11_readsTerm_121 rfl ?_
          refine PW.getr (pc := 122) dX11_readsTerm_122 fl_X11_68 M.g112 M.r31 ?_
          refine PW.iload_n (pc := 125) dX11_readsTerm_125 rfl ?_
          refine PW.iconst (pc := 126) dX11_readsTerm_126 ?_
          refine PW.isub (pc := 127) dX11_readsTerm_127 ?_
          rw [ed]
          refine PW.iald (pc := 128) dX11_readsTerm_128 M.g132 (by omega) (by omega) (by omega) ?_
          rw [hh]
          refine PW.iconst (pc := 129) dX11_readsTerm_129 ?_
          refine PW.icmp_ne (pc := 130) (tgt := 162) dX11_readsTerm_130 (by decide) (by first | omega | exact rg_of _) (by first | omega | exact rg_of _) (fun c_130 => ?_) (fun c_130 => ?_)
          · omega
          · refine PW.aload_n (pc := 133) dX11_readsTerm_133 rfl ?_
            refine PW.getr (pc := 134) dX11_readsTerm_134 fl_X11_71 M.g112 M.r32 ?_
            refine PW.iload_n (pc := 137) dX11_readsTerm_137 rfl ?_
            refine PW.iconst (pc := 138) dX11_readsTerm_138 ?_
            refine PW.isub (pc := 139) dX11_readsTerm_139 ?_
            rw [ed]
            refine PW.iald (pc := 140) dX11_readsTerm_140 M.g133 (by omega) (by omega) (by omega) ?_
            refine PW.bipush (pc := 141) dX11_readsTerm_141 (by decide) ?_
            refine PW.icmp_ne (pc := 143) (tgt := 162) dX11_readsTerm_143 (by decide) (by first | omega | exact rg_of _) (by first | omega | exact rg_of _) (fun c_143 => ?_) (fun c_143 => ?_)
            · refine PW.iinc (pc := 162) dX11_readsTerm_162 rfl (by decide) ?_
              rw [ei]
              refine PW.aload_n (pc := 165) dX11_readsTerm_165 rfl ?_
              refine PW.getr (pc := 166) dX11_readsTerm_166 fl_X11_68 M.g112 M.r31 ?_
              refine PW.iload_n (pc := 169) dX11_readsTerm_169 rfl ?_
              refine PW.iald (pc := 170) dX11_readsTerm_170 M.g132 (by omega) (by omega) (by omega) ?_
              rw [hh]
              refine PW.iconst (pc := 171) dX11_readsTerm_171 ?_
              refine PW.icmp_ne (pc := 172) (tgt := 187) dX11_readsTerm_172 (by decide) (by first | omega | exact rg_of _) (by first | omega | exact rg_of _) (fun c_172 => ?_) (fun c_172 => ?_)
              · refine PW.aload_n (pc := 187) dX11_readsTerm_187 rfl ?_
                refine PW.iconst (pc := 188) dX11_readsTerm_188 ?_
                refine PW.aload_n (pc := 189) dX11_readsTerm_189 rfl ?_
                refine PW.getr (pc := 190) dX11_readsTerm_190 fl_X11_71 M.g112 M.r32 ?_
                refine PW.iload_n (pc := 193) dX11_readsTerm_193 rfl ?_
                refine PW.iald (pc := 194) dX11_readsTerm_194 M.g133 (by omega) (by omega) (by omega) ?_
                refine PW.iload (pc := 195) dX11_readsTerm_195 rfl ?_
                refine PW.invV0 (pc := 197) dX11_readsTerm_197 mv_X11_115 (NG) M.g112 rfl rfl (Nat.le_of_ble_eq_true rfl) ?_
                (rintro v Γ' I' R' ⟨rfl, rfl, i', tb', rfl, hM⟩)
                rw [i2, l2] at hM
                have RM := RI.made sk' hM (S' := fun u => stS st u ∨ sub u (tg l a)) (fun u => by
                  rw [sub_tg]
                  exact ⟨fun h => h.elim (fun h => Or.inr (Or.inl (Or.inr h))) (fun h => h.elim Or.inl (fun h => h.elim (fun h => Or.inr (Or.inl (Or.inl h))) (fun h => Or.inr (Or.inr h)))), fun h => h.elim (fun h => Or.inr (Or.inl h)) (fun h => h.elim (fun h => h.elim (fun h => Or.inr (Or.inr (Or.inl h))) Or.inl) (fun h => Or.inr (Or.inr (Or.inr h))))⟩)
                refine PW.istore (pc := 200) dX11_readsTerm_200 (by decide) ?_
                refine PW.goto (pc := 202) (tgt := 112) dX11_readsTerm_202 (by decide) ?_
                exact ih (st.length : Int) i' I' tb' (tg l a) rfl (by omega) RM ⟨hM.1.1, hM.1.2, hM.2.1⟩ hc
              · omega
            · omega
set_option maxRecDepth 100000 in
set_option maxHeartbeats 1000000 in
theorem c_X11_readsTerm (d : Nat) {I0 : PIm} {tb0 : Int → Tm} {tx : Int → Int} {n p0 : Int} (M : MAt Γ R) (ht : I0 127 = tx) (hn : I0 112 20 = n) (hp : I0 112 22 = p0) (hx : TxOK tx n) (h0 : 0 ≤ p0) (h1 : p0 ≤ n) (T : MTab I0 (I0 112 13) tb0) (hz : I0 112 13 ≤ 4 + p0) : PC sc mX11_readsTerm (d + 1) 0 0 [.inr (some 112)] Γ I0 R (MRTp Γ R I0 tb0 (pT tx n 4 p0)) := by
  have hn100 := hx.1
  have OUT : ∀ (N : Nat) (p : Int), (n - p).toNat = N → 0 ≤ p → p ≤ n → ∀ (st : List Fr) (k : Int) (I : PIm) (tb : Int → Tm) (o4 o5 : Option PV), k = (st.length : Int) → st.length ≤ 4 → RTi I0 I tb0 tb p st (stS st) → ctn tx n st (pT tx n (4 - st.length) p) = pT tx n 4 p0 → PW sc mX11_readsTerm (d + 1) 0 0 (MRTp Γ R I0 tb0 (pT tx n 4 p0)) 7 [some (.inr (some 112)), some (.inl k), some (.inl (-9)), some (.inl 0), o4, o5] [] Γ I R := by
    intro N
    induction N using Nat.strongRecOn with
    | _ N ih =>
      intro p hN q0 q1 st k I tb o4 o5 hk hl RI hc
      have fr := RI.1
      have z4 := RI.2.2.2.2
      have etx : I 127 = tx := by rw [← ht]; funext z; exact fr 127 z (by omega)
      have en : I 112 20 = n := by rw [fr 112 20 (by omega)]; exact hn
      have TK := c_X11_takes (sc := sc) (Γ := Γ) (R := R) d M etx en RI.2.1 hx q0 q1
      have htk := tok_rg hx q0 q1
      have hsk := skp_ge tx q1
      have nx := fun (h : skp tx n p < n) => ih (n - (skp tx n p + 1)).toNat (by omega) (skp tx n p + 1) rfl (by omega) (by omega)
      have after : ∀ I2, Tks I I2 tx n p → PW sc mX11_readsTerm (d + 1) 0 0 (MRTp Γ R I0 tb0 (pT tx n 4 p0)) 21 [some (.inr (some 112)), some (.inl k), some (.inl (-9)), some (.inl 0), o4, o5] [] Γ I2 R := by
        intro I2 hT
        have k3 := hT.2.2.1
        have y13 := hT.2.2.2 112 13 (by omega)
        by_cases hc1 : 97 ≤ tok tx n p ∧ tok tx n p ≤ 100
        · have hlt := tok_lt (tx := tx) (n := n) (p := p) (by omega)
          have R2 := RI.take hT (if_pos hlt) (by omega)
          rw [pT_const hc1] at hc
          have T4 := R2.2.2.2.1.1.1
          have CL := lp_close (sc := sc) d M (p := skp tx n p + 1) (by omega) (nx hlt) st k (tok tx n p - 97) I2 tb (tc (tok tx n p - 97)) hk hl ⟨R2.1, R2.2.1, R2.2.2.1, R2.2.2.2.1.iff (fun u => ⟨fun w => w.elim id (fun w => (sub_tc u _ w).elim), Or.inl⟩), R2.2.2.2.2⟩ ⟨by omega, by omega, R2.2.2.2.1.1.const (by omega) (by omega)⟩ hc
          have NC := c_X11_nodeC (sc := sc) (Γ := Γ) (R := R) d M R2.2.2.2.1.1 (by omega) (k := tok tx n p - 97) (by omega) (by omega)
          refine PW.aload_n (pc := 21) dX11_readsTerm_21 rfl ?_
          refine PW.geti (pc := 22) dX11_readsTerm_22 fl_X11_135 (by decide) M.g112 ?_
          rw [k3]
          refine PW.bipush (pc := 25) dX11_readsTerm_25 (by decide) ?_
          refine PW.icmp_eq (pc := 27) (tgt := 39) dX11_readsTerm_27 (by decide) (by first | omega | exact rg_of _) (by first | omega | exact rg_of _) (fun c_27 => ?_) (fun c_27 => ?_)
          · omega
          · refine PW.aload_n (pc := 30) dX11_readsTerm_30 rfl ?_
            refine PW.geti (pc := 31) dX11_readsTerm_31 fl_X11_135 (by decide) M.g112 ?_
            rw [k3]
            refine PW.bipush (pc := 34) dX11_readsTerm_34 (by decide) ?_
            refine PW.icmp_ne (pc := 36) (tgt := 78) dX11_readsTerm_36 (by decide) (by first | omega | exact rg_of _) (by first | omega | exact rg_of _) (fun c_36 => ?_) (fun c_36 => ?_)
            · refine PW.aload_n (pc := 78) dX11_readsTerm_78 rfl ?_
              refine PW.geti (pc := 79) dX11_readsTerm_79 fl_X11_135 (by decide) M.g112 ?_
              rw [k3]
              refine PW.bipush (pc := 82) dX11_readsTerm_82 (by decide) ?_
              refine PW.bipush (pc := 84) dX11_readsTerm_84 (by decide) ?_
              refine PW.invS0x (pc := 86) dX11_readsTerm_86 ms_X11_122 (c_X11_in _ (by omega) (by omega) (by omega)) rfl rfl (Nat.le_of_ble_eq_true rfl) ?_
              refine PW.if_eq (pc := 89) (tgt := 221) dX11_readsTerm_89 (by decide) (rg_bi _) (fun c_89 => ?_) (fun c_89 => ?_)
              · exact absurd hc1 (bi0 c_89)
              · refine PW.aload_n (pc := 92) dX11_readsTerm_92 rfl ?_
                refine PW.aload_n (pc := 93) dX11_readsTerm_93 rfl ?_
                refine PW.geti (pc := 94) dX11_readsTerm_94 fl_X11_135 (by decide) M.g112 ?_
                rw [k3]
                refine PW.bipush (pc := 97) dX11_readsTerm_97 (by decide) ?_
                refine PW.isub (pc := 99) dX11_readsTerm_99 ?_
                refine PW.bipush (pc := 100) dX11_readsTerm_100 (by decide) ?_
                refine PW.bipush (pc := 102) dX11_readsTerm_102 (by decide) ?_
                refine PW.invV0x (pc := 104) dX11_readsTerm_104 mv_X11_115 (NC) M.g112 rfl rfl (Nat.le_of_ble_eq_true rfl) ?_
                refine PW.istore (pc := 107) dX11_readsTerm_107 (by decide) ?_
                refine PW.iconst (pc := 109) dX11_readsTerm_109 ?_
                refine PW.istore (pc := 110) dX11_readsTerm_110 (by decide) ?_
                exact CL
            · omega
        · by_cases hf : (tok tx n p = 102 ∨ tok tx n p = 103) ∧ st.length < 4
          · have hlt := tok_lt (tx := tx) (n := n) (p := p) (by omega)
            have R2 := RI.take hT (if_pos hlt) (by omega)
            have e4 : 4 - st.length = (3 - st.length) + 1 := by omega
            subst hk
            rcases hf.1 with hf1 | hf1
            · have n2 := nx hlt (none :: st) ((st.length : Int) + 1) _ tb o4 o5 (by rw [List.length_cons]; omega) (by rw [List.length_cons]; omega) (R2.push (Or.inl ⟨rfl, rfl⟩) (by omega)) (by rw [List.length_cons, show 4 - (st.length + 1) = 3 - st.length by omega, ← hc, e4]; exact ctn_f hf1)
              refine PW.aload_n (pc := 21) dX11_readsTerm_21 rfl ?_
              refine PW.geti (pc := 22) dX11_readsTerm_22 fl_X11_135 (by decide) M.g112 ?_
              rw [k3]
              refine PW.bipush (pc := 25) dX11_readsTerm_25 (by decide) ?_
              refine PW.icmp_eq (pc := 27) (tgt := 39) dX11_readsTerm_27 (by decide) (by first | omega | exact rg_of _) (by first | omega | exact rg_of _) (fun c_27 => ?_) (fun c_27 => ?_)
              · refine PW.iload_n (pc := 39) dX11_readsTerm_39 rfl ?_
                refine PW.iconst (pc := 40) dX11_readsTerm_40 ?_
                refine PW.icmp_ge (pc := 41) (tgt := 78) dX11_readsTerm_41 (by decide) (by first | omega | exact rg_of _) (by first | omega | exact rg_of _) (fun c_41 => ?_) (fun c_41 => ?_)
                · omega
                · refine PW.aload_n (pc := 44) dX11_readsTerm_44 rfl ?_
                  refine PW.getr (pc := 45) dX11_readsTerm_45 fl_X11_68 M.g112 M.r31 ?_
                  refine PW.iload_n (pc := 48) dX11_readsTerm_48 rfl ?_
                  refine PW.aload_n (pc := 49) dX11_readsTerm_49 rfl ?_
                  refine PW.geti (pc := 50) dX11_readsTerm_50 fl_X11_135 (by decide) M.g112 ?_
                  rw [k3]
                  refine PW.bipush (pc := 53) dX11_readsTerm_53 (by decide) ?_
                  refine PW.icmp_ne (pc := 55) (tgt := 62) dX11_readsTerm_55 (by decide) (by first | omega | exact rg_of _) (by first | omega | exact rg_of _) (fun c_55 => ?_) (fun c_55 => ?_)
                  · omega
                  · refine PW.iconst (pc := 58) dX11_readsTerm_58 ?_
                    refine PW.goto (pc := 59) (tgt := 63) dX11_readsTerm_59 (by decide) ?_
                    refine PW.iast (pc := 63) dX11_readsTerm_63 M.g132 (by omega) (by omega) (by omega) ?_
                    refine PW.aload_n (pc := 64) dX11_readsTerm_64 rfl ?_
                    refine PW.getr (pc := 65) dX11_readsTerm_65 fl_X11_71 M.g112 M.r32 ?_
                    refine PW.iload_n (pc := 68) dX11_readsTerm_68 rfl ?_
                    refine PW.bipush (pc := 69) dX11_readsTerm_69 (by decide) ?_
                    refine PW.iast (pc := 71) dX11_readsTerm_71 M.g133 (by omega) (by omega) (by omega) ?_
                    refine PW.iinc (pc := 72) dX11_readsTerm_72 rfl (by decide) ?_
                    refine PW.goto (pc := 75) (tgt := 7) dX11_readsTerm_75 (by decide) ?_
                    exact n2
              · omega
            · have n2 := nx hlt (some none :: st) ((st.length : Int) + 1) _ tb o4 o5 (by rw [List.length_cons]; omega) (by rw [List.length_cons]; omega) (R2.push (Or.inr ⟨rfl, rfl⟩) (by omega)) (by rw [List.length_cons, show 4 - (st.length + 1) = 3 - st.length by omega, ← hc, e4]; exact ctn_g rfl hf1)
              refine PW.aload_n (pc := 21) dX11_readsTerm_21 rfl ?_
              refine PW.geti (pc := 22) dX11_readsTerm_22 fl_X11_135 (by decide) M.g112 ?_
              rw [k3]
              refine PW.bipush (pc := 25) dX11_readsTerm_25 (by decide) ?_
              refine PW.icmp_eq (pc := 27) (tgt := 39) dX11_readsTerm_27 (by decide) (by first | omega | exact rg_of _) (by first | omega | exact rg_of _) (fun c_27 => ?_) (fun c_27 => ?_)
              · omega
              · refine PW.aload_n (pc := 30) dX11_readsTerm_30 rfl ?_
                refine PW.geti (pc := 31) dX11_readsTerm_31 fl_X11_135 (by decide) M.g112 ?_
                rw [k3]
                refine PW.bipush (pc := 34) dX11_readsTerm_34 (by decide) ?_
                refine PW.icmp_ne (pc := 36) (tgt := 78) dX11_readsTerm_36 (by decide) (by first | omega | exact rg_of _) (by first | omega | exact rg_of _) (fun c_36 => ?_) (fun c_36 => ?_)
                · omega
                · refine PW.iload_n (pc := 39) dX11_readsTerm_39 rfl ?_
                  refine PW.iconst (pc := 40) dX11_readsTerm_40 ?_
                  refine PW.icmp_ge (pc := 41) (tgt := 78) dX11_readsTerm_41 (by decide) (by first | omega | exact rg_of _) (by first | omega | exact rg_of _) (fun c_41 => ?_) (fun c_41 => ?_)
                  · omega
                  · refine PW.aload_n (pc := 44) dX11_readsTerm_44 rfl ?_
                    refine PW.getr (pc := 45) dX11_readsTerm_45 fl_X11_68 M.g112 M.r31 ?_
                    refine PW.iload_n (pc := 48) dX11_readsTerm_48 rfl ?_
                    refine PW.aload_n (pc := 49) dX11_readsTerm_49 rfl ?_
                    refine PW.geti (pc := 50) dX11_readsTerm_50 fl_X11_135 (by decide) M.g112 ?_
                    rw [k3]
                    refine PW.bipush (pc := 53) dX11_readsTerm_53 (by decide) ?_
                    refine PW.icmp_ne (pc := 55) (tgt := 62) dX11_readsTerm_55 (by decide) (by first | omega | exact rg_of _) (by first | omega | exact rg_of _) (fun c_55 => ?_) (fun c_55 => ?_)
                    · refine PW.iconst (pc := 62) dX11_readsTerm_62 ?_
                      refine PW.iast (pc := 63) dX11_readsTerm_63 M.g132 (by omega) (by omega) (by omega) ?_
                      refine PW.aload_n (pc := 64) dX11_readsTerm_64 rfl ?_
                      refine PW.getr (pc := 65) dX11_readsTerm_65 fl_X11_71 M.g112 M.r32 ?_
                      refine PW.iload_n (pc := 68) dX11_readsTerm_68 rfl ?_
                      refine PW.bipush (pc := 69) dX11_readsTerm_69 (by decide) ?_
                      refine PW.iast (pc := 71) dX11_readsTerm_71 M.g133 (by omega) (by omega) (by omega) ?_
                      refine PW.iinc (pc := 72) dX11_readsTerm_72 rfl (by decide) ?_
                      refine PW.goto (pc := 75) (tgt := 7) dX11_readsTerm_75 (by decide) ?_
                      exact n2
                    · omega
          · rw [pT_no hc1 (by omega), ctn_none] at hc
            rw [← hc]
            refine PW.aload_n (pc := 21) dX11_readsTerm_21 rfl ?_
            refine PW.geti (pc := 22) dX11_readsTerm_22 fl_X11_135 (by decide) M.g112 ?_
            rw [k3]
            refine PW.bipush (pc := 25) dX11_readsTerm_25 (by decide) ?_
            refine PW.icmp_eq (pc := 27) (tgt := 39) dX11_readsTerm_27 (by decide) (by first | omega | exact rg_of _) (by first | omega | exact rg_of _) (fun c_27 => ?_) (fun c_27 => ?_)
            · refine PW.iload_n (pc := 39) dX11_readsTerm_39 rfl ?_
              refine PW.iconst (pc := 40) dX11_readsTerm_40 ?_
              refine PW.icmp_ge (pc := 41) (tgt := 78) dX11_readsTerm_41 (by decide) (by first | omega | exact rg_of _) (by first | omega | exact rg_of _) (fun c_41 => ?_) (fun c_41 => ?_)
              · refine PW.aload_n (pc := 78) dX11_readsTerm_78 rfl ?_
                refine PW.geti (pc := 79) dX11_readsTerm_79 fl_X11_135 (by decide) M.g112 ?_
                rw [k3]
                refine PW.bipush (pc := 82) dX11_readsTerm_82 (by decide) ?_
                refine PW.bipush (pc := 84) dX11_readsTerm_84 (by decide) ?_
                refine PW.invS0x (pc := 86) dX11_readsTerm_86 ms_X11_122 (c_X11_in _ (by omega) (by omega) (by omega)) rfl rfl (Nat.le_of_ble_eq_true rfl) ?_
                refine PW.if_eq (pc := 89) (tgt := 221) dX11_readsTerm_89 (by decide) (rg_bi _) (fun c_89 => ?_) (fun c_89 => ?_)
                · refine PW.iconst (pc := 221) dX11_readsTerm_221 ?_
                  refine PW.istore_n (pc := 222) dX11_readsTerm_222 (by decide) ?_
                  refine PW.goto (pc := 223) (tgt := 7) dX11_readsTerm_223 (by decide) ?_
                  refine PW.iload_n (pc := 7) dX11_readsTerm_7 rfl ?_
                  refine PW.bipush (pc := 8) dX11_readsTerm_8 (by decide) ?_
                  refine PW.icmp_ne (pc := 10) (tgt := 226) dX11_readsTerm_10 (by decide) (by first | omega | exact rg_of _) (by first | omega | exact rg_of _) (fun c_10 => ?_) (fun c_10 => ?_)
                  · omega
                  · refine PW.iload_n (pc := 13) dX11_readsTerm_13 rfl ?_
                    refine PW.if_ne (pc := 14) (tgt := 226) dX11_readsTerm_14 (by decide) (by first | omega | exact rg_of _) (fun c_14 => ?_) (fun c_14 => ?_)
                    · refine PW.iload_n (pc := 226) dX11_readsTerm_226 rfl ?_
                      exact PW.ireturn (pc := 227) dX11_readsTerm_227 rfl (⟨rfl, rfl, fun q z g => by rw [hT.2.2.2 q z (by omega), fr q z g], rfl, hT.2.1⟩)
                    · omega
                · exact absurd (bi1 c_89) hc1
              · omega
            · refine PW.aload_n (pc := 30) dX11_readsTerm_30 rfl ?_
              refine PW.geti (pc := 31) dX11_readsTerm_31 fl_X11_135 (by decide) M.g112 ?_
              rw [k3]
              refine PW.bipush (pc := 34) dX11_readsTerm_34 (by decide) ?_
              refine PW.icmp_ne (pc := 36) (tgt := 78) dX11_readsTerm_36 (by decide) (by first | omega | exact rg_of _) (by first | omega | exact rg_of _) (fun c_36 => ?_) (fun c_36 => ?_)
              · refine PW.aload_n (pc := 78) dX11_readsTerm_78 rfl ?_
                refine PW.geti (pc := 79) dX11_readsTerm_79 fl_X11_135 (by decide) M.g112 ?_
                rw [k3]
                refine PW.bipush (pc := 82) dX11_readsTerm_82 (by decide) ?_
                refine PW.bipush (pc := 84) dX11_readsTerm_84 (by decide) ?_
                refine PW.invS0x (pc := 86) dX11_readsTerm_86 ms_X11_122 (c_X11_in _ (by omega) (by omega) (by omega)) rfl rfl (Nat.le_of_ble_eq_true rfl) ?_
                refine PW.if_eq (pc := 89) (tgt := 221) dX11_readsTerm_89 (by decide) (rg_bi _) (fun c_89 => ?_) (fun c_89 => ?_)
                · refine PW.iconst (pc := 221) dX11_readsTerm_221 ?_
                  refine PW.istore_n (pc := 222) dX11_readsTerm_222 (by decide) ?_
                  refine PW.goto (pc := 223) (tgt := 7) dX11_readsTerm_223 (by decide) ?_
                  refine PW.iload_n (pc := 7) dX11_readsTerm_7 rfl ?_
                  refine PW.bipush (pc := 8) dX11_readsTerm_8 (by decide) ?_
                  refine PW.icmp_ne (pc := 10) (tgt := 226) dX11_readsTerm_10 (by decide) (by first | omega | exact rg_of _) (by first | omega | exact rg_of _) (fun c_10 => ?_) (fun c_10 => ?_)
                  · omega
                  · refine PW.iload_n (pc := 13) dX11_readsTerm_13 rfl ?_
                    refine PW.if_ne (pc := 14) (tgt := 226) dX11_readsTerm_14 (by decide) (by first | omega | exact rg_of _) (fun c_14 => ?_) (fun c_14 => ?_)
                    · refine PW.iload_n (pc := 226) dX11_readsTerm_226 rfl ?_
                      exact PW.ireturn (pc := 227) dX11_readsTerm_227 rfl (⟨rfl, rfl, fun q z g => by rw [hT.2.2.2 q z (by omega), fr q z g], rfl, hT.2.1⟩)
                    · omega
                · exact absurd (bi1 c_89) hc1
              · refine PW.iload_n (pc := 39) dX11_readsTerm_39 rfl ?_
                refine PW.iconst (pc := 40) dX11_readsTerm_40 ?_
                refine PW.icmp_ge (pc := 41) (tgt := 78) dX11_readsTerm_41 (by decide) (by first | omega | exact rg_of _) (by first | omega | exact rg_of _) (fun c_41 => ?_) (fun c_41 => ?_)
                · refine PW.aload_n (pc := 78) dX11_readsTerm_78 rfl ?_
                  refine PW.geti (pc := 79) dX11_readsTerm_79 fl_X11_135 (by decide) M.g112 ?_
                  rw [k3]
                  refine PW.bipush (pc := 82) dX11_readsTerm_82 (by decide) ?_
                  refine PW.bipush (pc := 84) dX11_readsTerm_84 (by decide) ?_
                  refine PW.invS0x (pc := 86) dX11_readsTerm_86 ms_X11_122 (c_X11_in _ (by omega) (by omega) (by omega)) rfl rfl (Nat.le_of_ble_eq_true rfl) ?_
                  refine PW.if_eq (pc := 89) (tgt := 221) dX11_readsTerm_89 (by decide) (rg_bi _) (fun c_89 => ?_) (fun c_89 => ?_)
                  · refine PW.iconst (pc := 221) dX11_readsTerm_221 ?_
                    refine PW.istore_n (pc := 222) dX11_readsTerm_222 (by decide) ?_
                    refine PW.goto (pc := 223) (tgt := 7) dX11_readsTerm_223 (by decide) ?_
                    refine PW.iload_n (pc := 7) dX11_readsTerm_7 rfl ?_
                    refine PW.bipush (pc := 8) dX11_readsTerm_8 (by decide) ?_
                    refine PW.icmp_ne (pc := 10) (tgt := 226) dX11_readsTerm_10 (by decide) (by first | omega | exact rg_of _) (by first | omega | exact rg_of _) (fun c_10 => ?_) (fun c_10 => ?_)
                    · omega
                    · refine PW.iload_n (pc := 13) dX11_readsTerm_13 rfl ?_
                      refine PW.if_ne (pc := 14) (tgt := 226) dX11_readsTerm_14 (by decide) (by first | omega | exact rg_of _) (fun c_14 => ?_) (fun c_14 => ?_)
                      · refine PW.iload_n (pc := 226) dX11_readsTerm_226 rfl ?_
                        exact PW.ireturn (pc := 227) dX11_readsTerm_227 rfl (⟨rfl, rfl, fun q z g => by rw [hT.2.2.2 q z (by omega), fr q z g], rfl, hT.2.1⟩)
                      · omega
                  · exact absurd (bi1 c_89) hc1
                · omega
      refine PW.iload_n (pc := 7) dX11_readsTerm_7 rfl ?_
      refine PW.bipush (pc := 8) dX11_readsTerm_8 (by decide) ?_
      refine PW.icmp_ne (pc := 10) (tgt := 226) dX11_readsTerm_10 (by decide) (by first | omega | exact rg_of _) (by first | omega | exact rg_of _) (fun c_10 => ?_) (fun c_10 => ?_)
      · omega
      · refine PW.iload_n (pc := 13) dX11_readsTerm_13 rfl ?_
        refine PW.if_ne (pc := 14) (tgt := 226) dX11_readsTerm_14 (by decide) (by first | omega | exact rg_of _) (fun c_14 => ?_) (fun c_14 => ?_)
        · omega
        · refine PW.aload_n (pc := 17) dX11_readsTerm_17 rfl ?_
          refine PW.invV0 (pc := 18) dX11_readsTerm_18 mv_X11_138 (TK) M.g112 rfl rfl (Nat.le_of_ble_eq_true rfl) ?_
          (rintro v Γ' I2 R' ⟨rfl, rfl, rfl, hT⟩)
          exact after I2 hT
  refine PC.ofPW (by decide) (Nat.le_of_ble_eq_true rfl) ?_
  refine PW.iconst (pc := 0) dX11_readsTerm_0 ?_
  refine PW.istore_n (pc := 1) dX11_readsTerm_1 (by decide) ?_
  refine PW.bipush (pc := 2) dX11_readsTerm_2 (by decide) ?_
  refine PW.istore_n (pc := 4) dX11_readsTerm_4 (by decide) ?_
  refine PW.iconst (pc := 5) dX11_readsTerm_5 ?_
  refine PW.istore_n (pc := 6) dX11_readsTerm_6 (by decide) ?_
  exact OUT _ p0 rfl h0 h1 [] 0 I0 tb0 _ _ rfl (by decide) ⟨fun _ _ _ => rfl, hp, True.intro, MGr.start T (fun _ h => h), by show I0 112 13 + ((0 : Nat) : Int) ≤ 4 + p0; omega⟩ rfl
end MREADS
