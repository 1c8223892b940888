section MBEGINS
variable {sc : PSc} {μ : PMI} {d kc ks : Nat} {post : PPost} {pc : Nat} {L : List (Option PV)} {st : List PV} {Γ : List PTy} {I : PIm} {R : PRm}
set_option maxRecDepth 100000 in
set_option maxHeartbeats 1000000 in
theorem pw_narz (v : Int32) : ∃ y : Int32, narrow .boolean (.int v) = .int y := ⟨_, rfl⟩
set_option maxRecDepth 100000 in
set_option maxHeartbeats 1000000 in
/-- a number that may be any is put into a row of booleans -/
theorem PW.zastU {a n : Nat} {i x : Int} (hd : decode μ.2.1 pc = .ok (.bastore, 1)) (hΓ : Γ[a]? = some (.inr (1, n))) (h0 : 0 ≤ i) (hi : i < n) (hn : n ≤ 2147483647) (k : ∀ y : Int, (x = 0 ∨ x = 1 → y = x) → PW sc μ d kc ks post (pc + 1) L st Γ (pw_up I a i y) R) : PW sc μ d kc ks post pc L (.inl x :: .inl i :: .inr (some a) :: st) Γ I R := by
  intro w p l e RM s m args below meth c Q C fin H locs cells slots ls hR hS h1 h2 hl
  obtain ⟨g1, g2⟩ := pw_idx h0 hi hn
  obtain ⟨y, hy⟩ := pw_narz (Int32.ofInt x)
  have hat := hR.2.2 a _ hΓ
  rw [← hR.ad hΓ] at hat
  refine W.zast C.1 C.2.1 hat ((C.2.2.2.2.2.2.2.1.1.2 1 _ rfl).1 n _) (fun q => by cases q) (by show ¬ (_ ∨ (arrV _ _ _).slots.size ≤ _); rw [arrV_size]; exact g1) rfl rfl hd fun H1 e1 z oq => ?_
  have hyx : x = 0 ∨ x = 1 → y.toInt = x := fun hx => by
    have e := (pw_fit_bool (t := .boolean) rfl hx).1
    rw [hy] at e
    injection e with e
    rw [e]
    exact rg_toInt (by omega)
  refine k y.toInt hyx w p l e RM s m args below meth c Q C fin H1 _ cells slots ls (hR.store hΓ ?_ z oq pw_up_ne (fun _ _ => rfl)) (hS.put z oq (pw_inA hR hΓ)) h1 h2 hl
  show H1[pw_ad w a]? = some (vp_cell _ (n, .inl _))
  rw [e1, g2, hy, vp_cell_i, vp_cell_i, arrV_store, ← pw_up_arr h0, Int32.ofInt_toInt]
end MBEGINS
section MBEGIN2
variable {sc : PSc} {Γ : List PTy} {R : PRm}
set_option maxRecDepth 100000 in
set_option maxHeartbeats 1000000 in
theorem c_X11_laysConstants (d : Nat) {I : PIm} (M : MAt Γ R) : PC sc mX11_laysConstants (d + 1) 0 0 [.inr (some 112)] Γ I R (fun v Γ' I' R' => v = none ∧ Γ' = Γ ∧ R' = R ∧ I' 112 13 = 4 ∧ I' 112 14 = 4 ∧ MTab I' 4 tc ∧ ∀ q z, ¬ ((q = 112 ∧ (z = 13 ∨ z = 14)) ∨ (122 ≤ q ∧ q ≤ 124)) → I' q z = I q z) := by
  have loop : ∀ (N k : Nat) (J : PIm), 4 - k = N → k ≤ 4 → J 112 13 = k → (∀ j : Int, 0 ≤ j → j < k → mrow J j j (-9) (-9)) → (∀ q z, ¬ ((q = 112 ∧ (z = 13 ∨ z = 14)) ∨ (122 ≤ q ∧ q ≤ 124)) → J q z = I q z) → PW sc mX11_laysConstants (d + 1) 0 0 (fun v Γ' I' R' => v = none ∧ Γ' = Γ ∧ R' = R ∧ I' 112 13 = 4 ∧ I' 112 14 = 4 ∧ MTab I' 4 tc ∧ ∀ q z, ¬ ((q = 112 ∧ (z = 13 ∨ z = 14)) ∨ (122 ≤ q ∧ q ≤ 124)) → I' q z = I q z) 7 [some (.inr (some 112)), some (.inl (k : Int))] [] Γ J R := by
    intro N
    induction N using Nat.strongRecOn with
    | _ N ih =>
      intro k J hN hk e13 rows fr
      by_cases hl : k < 4
      · have NN : PC sc mX11_node d 0 0 [.inr (some 112), .inl (k : Int), .inl (-9), .inl (-9)] Γ J R (px (some (.inl (k : Int))) Γ (pw_up (pw_up (pw_up (pw_up J 122 k k) 123 k (-9)) 124 k (-9)) 112 13 (k + 1)) R) := by
          refine (c_X11_node d M e13 (by omega) (by omega) (by omega) (by omega) (fun j j0 j1 => by obtain ⟨a, b, c⟩ := rows j j0 j1; omega)).mono ?_
          rintro v Γ' I' R' ⟨rfl, rfl, i, rfl, ⟨i0, i1, ⟨a, -, -⟩, rfl⟩ | ⟨rfl, -, rfl⟩⟩
          · have := (rows i i0 i1).1
            omega
          · exact px_rfl
        have x13 : pw_up (pw_up (pw_up (pw_up J 122 k k) 123 k (-9)) 124 k (-9)) 112 13 ((k : Int) + 1) 112 13 = (k : Int) + 1 := pw_up_self _ _ _ _
        have y : ∀ q z, ¬ ((122 ≤ q ∧ q ≤ 124 ∧ z = (k : Int)) ∨ (q = 112 ∧ z = 13)) → pw_up (pw_up (pw_up (pw_up J 122 k k) 123 k (-9)) 124 k (-9)) 112 13 ((k : Int) + 1) q z = J q z := fun q z g => by
          rw [pw_up_other (by omega), pw_up_other (by omega), pw_up_other (by omega), pw_up_other (by omega)]
        have e1 : pw_up (pw_up (pw_up (pw_up J 122 k k) 123 k (-9)) 124 k (-9)) 112 13 ((k : Int) + 1) 122 k = k := by rw [pw_up_other (by omega), pw_up_other (by omega), pw_up_other (by omega), pw_up_self]
        have e2 : pw_up (pw_up (pw_up (pw_up J 122 k k) 123 k (-9)) 124 k (-9)) 112 13 ((k : Int) + 1) 123 k = -9 := by rw [pw_up_other (by omega), pw_up_other (by omega), pw_up_self]
        have e3 : pw_up (pw_up (pw_up (pw_up J 122 k k) 123 k (-9)) 124 k (-9)) 112 13 ((k : Int) + 1) 124 k = -9 := by rw [pw_up_other (by omega), pw_up_self]
        generalize pw_up (pw_up (pw_up (pw_up J 122 k k) 123 k (-9)) 124 k (-9)) 112 13 ((k : Int) + 1) = J2 at *
        have nx := ih (4 - (k + 1)) (by omega) (k + 1) J2 rfl (by omega) (by rw [x13]; omega) (fun j j0 j1 => by
          unfold mrow
          by_cases q : j = (k : Int)
          · subst q; exact ⟨e1, e2, e3⟩
          · rw [y 122 j (by omega), y 123 j (by omega), y 124 j (by omega)]; exact rows j j0 (by omega)) (fun q z g => by rw [y q z (by omega), fr q z g])
        refine PW.iload_n (pc := 7) dX11_laysConstants_7 rfl ?_
        refine PW.iconst (pc := 8) dX11_laysConstants_8 ?_
        refine PW.icmp_ge (pc := 9) (tgt := 28) dX11_laysConstants_9 (by decide) (by first | omega | exact rg_of _) (by first | omega | exact rg_of _) (fun c_9 => ?_) (fun c_9 => ?_)
        · omega
        · refine PW.aload_n (pc := 12) dX11_laysConstants_12 rfl ?_
          refine PW.iload_n (pc := 13) dX11_laysConstants_13 rfl ?_
          refine PW.bipush (pc := 14) dX11_laysConstants_14 (by decide) ?_
          refine PW.bipush (pc := 16) dX11_laysConstants_16 (by decide) ?_
          refine PW.invV0x (pc := 18) dX11_laysConstants_18 mv_X11_115 (NN) M.g112 rfl rfl (Nat.le_of_ble_eq_true rfl) ?_
          refine PW.pop (pc := 21) dX11_laysConstants_21 ?_
          refine PW.iinc (pc := 22) dX11_laysConstants_22 rfl (by decide) ?_
          refine PW.goto (pc := 25) (tgt := 7) dX11_laysConstants_25 (by decide) ?_
          exact nx
      · obtain rfl : k = 4 := by omega
        have y : ∀ q z, ¬ (q = 112 ∧ z = 14) → pw_up J 112 14 4 q z = J q z := fun q z g => pw_up_other g
        refine PW.iload_n (pc := 7) dX11_laysConstants_7 rfl ?_
        refine PW.iconst (pc := 8) dX11_laysConstants_8 ?_
        refine PW.icmp_ge (pc := 9) (tgt := 28) dX11_laysConstants_9 (by decide) (by first | omega | exact rg_of _) (by first | omega | exact rg_of _) (fun c_9 => ?_) (fun c_9 => ?_)
        · refine PW.aload_n (pc := 28) dX11_laysConstants_28 rfl ?_
          refine PW.iconst (pc := 29) dX11_laysConstants_29 ?_
          refine PW.puti (pc := 30) dX11_laysConstants_30 fl_X11_119 M.g112 ?_
          exact PW.vreturn (pc := 33) dX11_laysConstants_33 rfl (⟨rfl, rfl, rfl, by rw [y _ _ (by omega)]; exact e13, pw_up_self _ _ _ _, ⟨by omega, fun i i0 i1 => ⟨fun _ => ⟨by unfold mrow; rw [y _ _ (by omega), y _ _ (by omega), y _ _ (by omega)]; exact rows i i0 i1, rfl⟩, fun g => by omega⟩, fun i j i0 i1 j0 j1 e => tc_inj i0 j0 e⟩, fun q z g => by rw [y q z (by omega), fr q z g]⟩)
        · omega
  refine PC.ofPW (by decide) (Nat.le_of_ble_eq_true rfl) ?_
  refine PW.aload_n (pc := 0) dX11_laysConstants_0 rfl ?_
  refine PW.iconst (pc := 1) dX11_laysConstants_1 ?_
  refine PW.puti (pc := 2) dX11_laysConstants_2 fl_X11_112 M.g112 ?_
  refine PW.iconst (pc := 5) dX11_laysConstants_5 ?_
  refine PW.istore_n (pc := 6) dX11_laysConstants_6 (by decide) ?_
  exact loop 4 0 _ rfl (by omega) (pw_up_self _ _ _ _) (fun j j0 j1 => by omega) (fun q z g => pw_up_other (by omega))
set_option maxRecDepth 100000 in
set_option maxHeartbeats 1000000 in
theorem c_X11_begins (d : Nat) {I : PIm} (M : MAt Γ R) : PC sc mX11_begins (d + 2) 0 0 [.inr (some 112)] Γ I R (fun v Γ' I' R' => v = none ∧ Γ' = Γ ∧ R' = R ∧ MPI I' pstart tc 0 ∧ ∀ q z, ¬ ((q = 112 ∧ (z = 13 ∨ z = 14 ∨ z = 25 ∨ z = 29)) ∨ (122 ≤ q ∧ q ≤ 124)) → I' q z = I q z) := by
  refine PC.ofPW (by decide) (Nat.le_of_ble_eq_true rfl) ?_
  refine PW.aload_n (pc := 0) dX11_begins_0 rfl ?_
  refine PW.invV0 (pc := 1) dX11_begins_1 mv_X11_159 (c_X11_laysConstants _ M) M.g112 rfl rfl (Nat.le_of_ble_eq_true rfl) ?_
  (rintro v Γ' J R' ⟨rfl, rfl, rfl, e13, e14, T, fr⟩)
  refine PW.aload_n (pc := 4) dX11_begins_4 rfl ?_
  refine PW.iconst (pc := 5) dX11_begins_5 ?_
  refine PW.puti (pc := 6) dX11_begins_6 fl_X11_141 M.g112 ?_
  refine PW.aload_n (pc := 9) dX11_begins_9 rfl ?_
  refine PW.iconst (pc := 10) dX11_begins_10 ?_
  refine PW.puti (pc := 11) dX11_begins_11 fl_X11_148 M.g112 ?_
  exact PW.vreturn (pc := 14) dX11_begins_14 rfl (by
  have y : ∀ q z, ¬ (q = 112 ∧ (z = 25 ∨ z = 29)) → pw_up (pw_up J 112 25 0) 112 29 0 q z = J q z := fun q z g => by rw [pw_up_other (by omega), pw_up_other (by omega)]
  have y1 : pw_up (pw_up J 112 25 0) 112 29 0 112 25 = 0 := by rw [pw_up_other (by omega), pw_up_self]
  have y2 : pw_up (pw_up J 112 25 0) 112 29 0 112 29 = 0 := pw_up_self _ _ _ _
  generalize pw_up (pw_up J 112 25 0) 112 29 0 = J2 at *
  have y13 : J2 112 13 = 4 := by rw [y _ _ (by omega)]; exact e13
  refine ⟨rfl, rfl, rfl, ⟨⟨y1, by decide, fun k k0 k1 => absurd k1 (by show ¬ k < ((0 : Nat) : Int); omega)⟩, ⟨y2, by decide, fun k k0 k1 => absurd k1 (by show ¬ k < ((0 : Nat) : Int); omega)⟩, by rw [y13]; exact T.cg (fun q a b k _ _ => y q k (by omega)), fun u => ?_, by rw [y13]; decide⟩, fun q z g => by rw [y q z (by omega), fr q z (by omega)]⟩
  rw [y13]
  constructor
  · rintro ⟨i, i0, i1, e⟩
    exact Or.inl ⟨i, i0, i1, e.symm⟩
  · rintro (⟨i, i0, i1, e⟩ | ⟨k, k0, k1, -⟩)
    · exact ⟨i, i0, i1, e.symm⟩
    · exact absurd k1 (by show ¬ k < ((0 : Nat) : Int); omega))
/-- what has been read becomes what is told -/
def BCp (Γ : List PTy) (R : PRm) (I0 : PIm) (σ : PS) : PPost := fun v Γ' I' R' => v = none ∧ Γ' = Γ ∧ R' = R ∧ (∀ q z, ¬ ((q = 112 ∧ (z = 1 ∨ z = 7 ∨ z = 10 ∨ z = 14)) ∨ (113 ≤ q ∧ q ≤ 116) ∨ q = 119) → I' q z = I0 q z) ∧ (∃ tb, MFcts I' σ.1 tb (I' 112 14) ∧ MTab I' (I' 112 14) tb ∧ I' 112 14 ≤ 104 ∧ ∀ u, UT tb (I' 112 14) u ↔ UF σ.1 u) ∧ MRow (I' 116) (σ.2.1, σ.2.2, 2, 0, 0, pw_shl 1 (σ.1.1 : Int) - 1) ∧ (∀ k : Int, 0 ≤ k → k < σ.2.2 → okc (σ.2.1 k)) ∧ (σ.1.1 ≤ 6 ∧ σ.2.2 ≤ 6) ∧ I' 112 7 = 0 ∧ I' 112 10 = 0 ∧ I' 119 0 = 0 ∧ I' 119 1 = 0
set_option maxRecDepth 100000 in
set_option maxHeartbeats 1000000 in
theorem c_X11_becomes (d : Nat) {I : PIm} {σ : PS} {tb : Int → Tm} {p : Int} (M : MAt Γ R) (PI : MPI I σ tb p) (hp : p ≤ 100) : PC sc mX11_becomes d 0 0 [.inr (some 112)] Γ I R (BCp Γ R I σ) := by
  obtain ⟨⟨F1, F2, F3⟩, ⟨P1, P2, P3⟩, PT, PU, PZ⟩ := id PI
  -- behind all rows
  have fin : ∀ J : PIm, (∀ q z, ¬ ((q = 112 ∧ (z = 1 ∨ z = 14)) ∨ (113 ≤ q ∧ q ≤ 116)) → J q z = I q z) → J 112 1 = σ.1.1 → J 112 14 = I 112 13 → (∀ j : Int, 0 ≤ j → j < 6 → ((I 128 j = 0 ∨ I 128 j = 1 → J 113 j = I 128 j) ∧ J 114 j = I 129 j ∧ J 115 j = I 130 j)) → J 116 0 = σ.2.2 → (∀ j : Int, 0 ≤ j → j < 4 * (σ.2.2 : Int) → J 116 (1 + j) = I 131 j) → PW sc mX11_becomes d 0 0 (BCp Γ R I σ) 118 [some (.inr (some 112)), some (.inl 24)] [] Γ J R := by
    intro J fr e1 e14 rw3 e0 rws
    refine PW.aload_n (pc := 118) dX11_becomes_118 rfl ?_
    refine PW.getr (pc := 119) dX11_becomes_119 fl_X11_20 M.g112 M.r5 ?_
    refine PW.bipush (pc := 122) dX11_becomes_122 (by decide) ?_
    refine PW.iconst (pc := 124) dX11_becomes_124 ?_
    refine PW.aload_n (pc := 125) dX11_becomes_125 rfl ?_
    refine PW.geti (pc := 126) dX11_becomes_126 fl_X11_162 (by decide) M.g112 ?_
    rw [e1]
    refine PW.ishl (pc := 129) dX11_becomes_129 ?_
    refine PW.iconst (pc := 130) dX11_becomes_130 ?_
    refine PW.isub (pc := 131) dX11_becomes_131 ?_
    refine PW.iast (pc := 132) dX11_becomes_132 M.g116 (by omega) (by omega) (by omega) ?_
    refine PW.aload_n (pc := 133) dX11_becomes_133 rfl ?_
    refine PW.getr (pc := 134) dX11_becomes_134 fl_X11_20 M.g112 M.r5 ?_
    refine PW.bipush (pc := 137) dX11_becomes_137 (by decide) ?_
    refine PW.iconst (pc := 139) dX11_becomes_139 ?_
    refine PW.iast (pc := 140) dX11_becomes_140 M.g116 (by omega) (by omega) (by omega) ?_
    refine PW.aload_n (pc := 141) dX11_becomes_141 rfl ?_
    refine PW.getr (pc := 142) dX11_becomes_142 fl_X11_20 M.g112 M.r5 ?_
    refine PW.bipush (pc := 145) dX11_becomes_145 (by decide) ?_
    refine PW.iconst (pc := 147) dX11_becomes_147 ?_
    refine PW.iast (pc := 148) dX11_becomes_148 M.g116 (by omega) (by omega) (by omega) ?_
    refine PW.aload_n (pc := 149) dX11_becomes_149 rfl ?_
    refine PW.getr (pc := 150) dX11_becomes_150 fl_X11_20 M.g112 M.r5 ?_
    refine PW.bipush (pc := 153) dX11_becomes_153 (by decide) ?_
    refine PW.iconst (pc := 155) dX11_becomes_155 ?_
    refine PW.iast (pc := 156) dX11_becomes_156 M.g116 (by omega) (by omega) (by omega) ?_
    refine PW.aload_n (pc := 157) dX11_becomes_157 rfl ?_
    refine PW.iconst (pc := 158) dX11_becomes_158 ?_
    refine PW.puti (pc := 159) dX11_becomes_159 fl_X11_165 M.g112 ?_
    refine PW.aload_n (pc := 162) dX11_becomes_162 rfl ?_
    refine PW.iconst (pc := 163) dX11_becomes_163 ?_
    refine PW.puti (pc := 164) dX11_becomes_164 fl_X11_168 M.g112 ?_
    refine PW.aload_n (pc := 167) dX11_becomes_167 rfl ?_
    refine PW.getr (pc := 168) dX11_becomes_168 fl_X11_29 M.g112 M.r9 ?_
    refine PW.iconst (pc := 171) dX11_becomes_171 ?_
    refine PW.iconst (pc := 172) dX11_becomes_172 ?_
    refine PW.zast (pc := 173) dX11_becomes_173 M.g119 (by omega) (by omega) (by omega) (by first | exact Or.inl rfl | exact Or.inr rfl | omega) ?_
    refine PW.aload_n (pc := 174) dX11_becomes_174 rfl ?_
    refine PW.getr (pc := 175) dX11_becomes_175 fl_X11_29 M.g112 M.r9 ?_
    refine PW.iconst (pc := 178) dX11_becomes_178 ?_
    refine PW.iconst (pc := 179) dX11_becomes_179 ?_
    refine PW.zast (pc := 180) dX11_becomes_180 M.g119 (by omega) (by omega) (by omega) (by first | exact Or.inl rfl | exact Or.inr rfl | omega) ?_
    exact PW.vreturn (pc := 181) dX11_becomes_181 rfl (by
    have y : ∀ q z, ¬ ((q = 116 ∧ 25 ≤ z) ∨ (q = 112 ∧ (z = 7 ∨ z = 10)) ∨ q = 119) → pw_up (pw_up (pw_up (pw_up (pw_up (pw_up (pw_up (pw_up J 116 25 (pw_shl 1 (σ.1.1 : Int) - 1)) 116 26 2) 116 27 0) 116 28 0) 112 7 0) 112 10 0) 119 0 0) 119 1 0 q z = J q z := fun q z g => by
      rw [pw_up_other (by omega), pw_up_other (by omega), pw_up_other (by omega), pw_up_other (by omega), pw_up_other (by omega), pw_up_other (by omega), pw_up_other (by omega), pw_up_other (by omega)]
    have a1 : pw_up (pw_up (pw_up (pw_up (pw_up (pw_up (pw_up (pw_up J 116 25 (pw_shl 1 (σ.1.1 : Int) - 1)) 116 26 2) 116 27 0) 116 28 0) 112 7 0) 112 10 0) 119 0 0) 119 1 0 119 1 = 0 := pw_up_self _ _ _ _
    have a2 : pw_up (pw_up (pw_up (pw_up (pw_up (pw_up (pw_up (pw_up J 116 25 (pw_shl 1 (σ.1.1 : Int) - 1)) 116 26 2) 116 27 0) 116 28 0) 112 7 0) 112 10 0) 119 0 0) 119 1 0 119 0 = 0 := by rw [pw_up_other (by omega), pw_up_self]
    have a3 : pw_up (pw_up (pw_up (pw_up (pw_up (pw_up (pw_up (pw_up J 116 25 (pw_shl 1 (σ.1.1 : Int) - 1)) 116 26 2) 116 27 0) 116 28 0) 112 7 0) 112 10 0) 119 0 0) 119 1 0 112 10 = 0 := by rw [pw_up_other (by omega), pw_up_other (by omega), pw_up_self]
    have a4 : pw_up (pw_up (pw_up (pw_up (pw_up (pw_up (pw_up (pw_up J 116 25 (pw_shl 1 (σ.1.1 : Int) - 1)) 116 26 2) 116 27 0) 116 28 0) 112 7 0) 112 10 0) 119 0 0) 119 1 0 112 7 = 0 := by rw [pw_up_other (by omega), pw_up_other (by omega), pw_up_other (by omega), pw_up_self]
    have a5 : pw_up (pw_up (pw_up (pw_up (pw_up (pw_up (pw_up (pw_up J 116 25 (pw_shl 1 (σ.1.1 : Int) - 1)) 116 26 2) 116 27 0) 116 28 0) 112 7 0) 112 10 0) 119 0 0) 119 1 0 116 28 = 0 := by rw [pw_up_other (by omega), pw_up_other (by omega), pw_up_other (by omega), pw_up_other (by omega), pw_up_self]
    have a6 : pw_up (pw_up (pw_up (pw_up (pw_up (pw_up (pw_up (pw_up J 116 25 (pw_shl 1 (σ.1.1 : Int) - 1)) 116 26 2) 116 27 0) 116 28 0) 112 7 0) 112 10 0) 119 0 0) 119 1 0 116 27 = 0 := by rw [pw_up_other (by omega), pw_up_other (by omega), pw_up_other (by omega), pw_up_other (by omega), pw_up_other (by omega), pw_up_self]
    have a7 : pw_up (pw_up (pw_up (pw_up (pw_up (pw_up (pw_up (pw_up J 116 25 (pw_shl 1 (σ.1.1 : Int) - 1)) 116 26 2) 116 27 0) 116 28 0) 112 7 0) 112 10 0) 119 0 0) 119 1 0 116 26 = 2 := by rw [pw_up_other (by omega), pw_up_other (by omega), pw_up_other (by omega), pw_up_other (by omega), pw_up_other (by omega), pw_up_other (by omega), pw_up_self]
    have a8 : pw_up (pw_up (pw_up (pw_up (pw_up (pw_up (pw_up (pw_up J 116 25 (pw_shl 1 (σ.1.1 : Int) - 1)) 116 26 2) 116 27 0) 116 28 0) 112 7 0) 112 10 0) 119 0 0) 119 1 0 116 25 = pw_shl 1 (σ.1.1 : Int) - 1 := by rw [pw_up_other (by omega), pw_up_other (by omega), pw_up_other (by omega), pw_up_other (by omega), pw_up_other (by omega), pw_up_other (by omega), pw_up_other (by omega), pw_up_self]
    generalize pw_up (pw_up (pw_up (pw_up (pw_up (pw_up (pw_up (pw_up J 116 25 (pw_shl 1 (σ.1.1 : Int) - 1)) 116 26 2) 116 27 0) 116 28 0) 112 7 0) 112 10 0) 119 0 0) 119 1 0 = W at *
    have w14 : W 112 14 = I 112 13 := by rw [y _ _ (by omega)]; exact e14
    refine ⟨rfl, rfl, rfl, fun q z g => by rw [y q z (by omega), fr q z (by omega)], ⟨tb, ⟨by rw [y _ _ (by omega)]; exact e1, F2, fun k k0 k1 => ?_⟩, by rw [w14]; exact PT.cg (fun q a b k _ _ => by rw [y q k (by omega), fr q k (by omega)]), by omega, by rw [w14]; exact PU⟩, ⟨by rw [y _ _ (by omega)]; exact e0, fun k k0 k1 => ?_, a8, a7, a6, a5⟩, fun k k0 k1 => (P3 k k0 k1).1, ⟨F2, P2⟩, a4, a3, a2, a1⟩
    · obtain ⟨c1, c2, c3⟩ := F3 k k0 k1
      obtain ⟨g1, g2, g3⟩ := rw3 k k0 (by omega)
      rw [w14, y _ _ (by omega), y _ _ (by omega), y _ _ (by omega), g1 (by omega), g2, g3]
      exact ⟨c1, c2, c3⟩
    · have k1' : k < (σ.2.2 : Int) := k1
      obtain ⟨c0, c1, c2, c3, c4⟩ := P3 k k0 k1'
      have u1 := rws (4 * k) (by omega) (by omega)
      have u2 := rws (4 * k + 1) (by omega) (by omega)
      have u3 := rws (4 * k + 2) (by omega) (by omega)
      have u4 := rws (4 * k + 3) (by omega) (by omega)
      rw [y _ _ (by omega), y _ _ (by omega), y _ _ (by omega), y _ _ (by omega), show 1 + 4 * k + 0 = 1 + 4 * k by omega, show 1 + 4 * k + 1 = 1 + (4 * k + 1) by omega, show 1 + 4 * k + 2 = 1 + (4 * k + 2) by omega, show 1 + 4 * k + 3 = 1 + (4 * k + 3) by omega, u1, u2, u3, u4]
      exact ⟨c1, c2, c3, c4⟩)
  have loop2 : ∀ (N k : Nat) (J : PIm), 24 - k = N → k ≤ 24 → (∀ q z, ¬ ((q = 112 ∧ (z = 1 ∨ z = 14)) ∨ (113 ≤ q ∧ q ≤ 116)) → J q z = I q z) → J 112 1 = σ.1.1 → J 112 14 = I 112 13 → (∀ j : Int, 0 ≤ j → j < 6 → ((I 128 j = 0 ∨ I 128 j = 1 → J 113 j = I 128 j) ∧ J 114 j = I 129 j ∧ J 115 j = I 130 j)) → J 116 0 = σ.2.2 → (∀ j : Int, 0 ≤ j → j < k → j < 4 * (σ.2.2 : Int) → J 116 (1 + j) = I 131 j) → PW sc mX11_becomes d 0 0 (BCp Γ R I σ) 78 [some (.inr (some 112)), some (.inl (k : Int))] [] Γ J R := by
    intro N
    induction N using Nat.strongRecOn with
    | _ N ih =>
      intro k J hN hk fr e1 e14 rw3 e0 rws
      by_cases hl : k < 24
      · have nx : ∀ v, ((k : Int) < 4 * (σ.2.2 : Int) → v = I 131 k) → PW sc mX11_becomes d 0 0 (BCp Γ R I σ) 112 [some (.inr (some 112)), some (.inl (k : Int))] [] Γ (pw_up J 116 (1 + (k : Int)) v) R := by
          intro v hv
          have y : ∀ q z, ¬ (q = 116 ∧ z = 1 + (k : Int)) → pw_up J 116 (1 + (k : Int)) v q z = J q z := fun q z g => pw_up_other g
          have ys : pw_up J 116 (1 + (k : Int)) v 116 (1 + (k : Int)) = v := pw_up_self _ _ _ _
          have r := ih (24 - (k + 1)) (by omega) (k + 1) (pw_up J 116 (1 + (k : Int)) v) rfl (by omega) (fun q z g => by rw [y q z (by omega), fr q z g]) (by rw [y _ _ (by omega)]; exact e1) (by rw [y _ _ (by omega)]; exact e14) (fun j j0 j1 => by rw [y _ _ (by omega), y _ _ (by omega), y _ _ (by omega)]; exact rw3 j j0 j1) (by rw [y _ _ (by omega)]; exact e0) (fun j j0 j1 j2 => by
            by_cases q : j = (k : Int)
            · subst q; rw [ys]; exact hv j2
            · rw [y _ _ (by omega)]; exact rws j j0 (by omega) j2)
          refine PW.iinc (pc := 112) dX11_becomes_112 rfl (by decide) ?_
          refine PW.goto (pc := 115) (tgt := 78) dX11_becomes_115 (by decide) ?_
          exact r
        have e29 : J 112 29 = σ.2.2 := by rw [fr _ _ (by omega)]; exact P1
        have e131 : J 131 k = I 131 k := fr _ _ (by omega)
        refine PW.iload_n (pc := 78) dX11_becomes_78 rfl ?_
        refine PW.bipush (pc := 79) dX11_becomes_79 (by decide) ?_
        refine PW.icmp_ge (pc := 81) (tgt := 118) dX11_becomes_81 (by decide) (by first | omega | exact rg_of _) (by first | omega | exact rg_of _) (fun c_81 => ?_) (fun c_81 => ?_)
        · omega
        · refine PW.aload_n (pc := 84) dX11_becomes_84 rfl ?_
          refine PW.getr (pc := 85) dX11_becomes_85 fl_X11_20 M.g112 M.r5 ?_
          refine PW.iconst (pc := 88) dX11_becomes_88 ?_
          refine PW.iload_n (pc := 89) dX11_becomes_89 rfl ?_
          refine PW.iadd (pc := 90) dX11_becomes_90 ?_
          refine PW.iload_n (pc := 91) dX11_becomes_91 rfl ?_
          refine PW.iconst (pc := 92) dX11_becomes_92 ?_
          refine PW.aload_n (pc := 93) dX11_becomes_93 rfl ?_
          refine PW.geti (pc := 94) dX11_becomes_94 fl_X11_148 (by decide) M.g112 ?_
          rw [e29]
          refine PW.imul (pc := 97) dX11_becomes_97 ?_
          refine PW.icmp_ge (pc := 98) (tgt := 110) dX11_becomes_98 (by decide) (by first | omega | exact rg_of _) (by first | omega | exact rg_of _) (fun c_98 => ?_) (fun c_98 => ?_)
          · refine PW.iconst (pc := 110) dX11_becomes_110 ?_
            refine PW.iast (pc := 111) dX11_becomes_111 M.g116 (by omega) (by omega) (by omega) ?_
            first
            | exact nx _ (fun _ => rfl)
            | exact nx _ (fun g => by omega)
          · refine PW.aload_n (pc := 101) dX11_becomes_101 rfl ?_
            refine PW.getr (pc := 102) dX11_becomes_102 fl_X11_65 M.g112 M.r30 ?_
            refine PW.iload_n (pc := 105) dX11_becomes_105 rfl ?_
            refine PW.iald (pc := 106) dX11_becomes_106 M.g131 (by omega) (by omega) (by omega) ?_
            rw [e131]
            refine PW.goto (pc := 107) (tgt := 111) dX11_becomes_107 (by decide) ?_
            refine PW.iast (pc := 111) dX11_becomes_111 M.g116 (by omega) (by omega) (by omega) ?_
            first
            | exact nx _ (fun _ => rfl)
            | exact nx _ (fun g => by omega)
      · obtain rfl : k = 24 := by omega
        refine PW.iload_n (pc := 78) dX11_becomes_78 rfl ?_
        refine PW.bipush (pc := 79) dX11_becomes_79 (by decide) ?_
        refine PW.icmp_ge (pc := 81) (tgt := 118) dX11_becomes_81 (by decide) (by first | omega | exact rg_of _) (by first | omega | exact rg_of _) (fun c_81 => ?_) (fun c_81 => ?_)
        · exact fin J fr e1 e14 rw3 e0 (fun j j0 j1 => rws j j0 (by omega) j1)
        · omega
  have loop1 : ∀ (N k : Nat) (J : PIm), 6 - k = N → k ≤ 6 → (∀ q z, ¬ ((q = 112 ∧ (z = 1 ∨ z = 14)) ∨ (113 ≤ q ∧ q ≤ 115)) → J q z = I q z) → J 112 1 = σ.1.1 → J 112 14 = I 112 13 → (∀ j : Int, 0 ≤ j → j < k → ((I 128 j = 0 ∨ I 128 j = 1 → J 113 j = I 128 j) ∧ J 114 j = I 129 j ∧ J 115 j = I 130 j)) → PW sc mX11_becomes d 0 0 (BCp Γ R I σ) 18 [some (.inr (some 112)), some (.inl (k : Int))] [] Γ J R := by
    intro N
    induction N using Nat.strongRecOn with
    | _ N ih =>
      intro k J hN hk fr e1 e14 rws
      by_cases hl : k < 6
      · have e128 : J 128 k = I 128 k := fr _ _ (by omega)
        have nx : ∀ y : Int, (I 128 k = 0 ∨ I 128 k = 1 → y = I 128 k) → PW sc mX11_becomes d 0 0 (BCp Γ R I σ) 36 [some (.inr (some 112)), some (.inl (k : Int))] [] Γ (pw_up J 113 (k : Int) y) R := by
          intro y hy
          have x1 : pw_up J 113 (k : Int) y 129 (k : Int) = I 129 k := by rw [pw_up_other (by omega), fr _ _ (by omega)]
          have x2 : pw_up (pw_up J 113 (k : Int) y) 114 (k : Int) (I 129 k) 130 (k : Int) = I 130 k := by rw [pw_up_other (by omega), pw_up_other (by omega), fr _ _ (by omega)]
          have w : ∀ q z, ¬ ((113 ≤ q ∧ q ≤ 115) ∧ z = (k : Int)) → pw_up (pw_up (pw_up J 113 (k : Int) y) 114 (k : Int) (I 129 k)) 115 (k : Int) (I 130 k) q z = J q z := fun q z g => by rw [pw_up_other (by omega), pw_up_other (by omega), pw_up_other (by omega)]
          have w1 : pw_up (pw_up (pw_up J 113 (k : Int) y) 114 (k : Int) (I 129 k)) 115 (k : Int) (I 130 k) 113 k = y := by rw [pw_up_other (by omega), pw_up_other (by omega), pw_up_self]
          have w2 : pw_up (pw_up (pw_up J 113 (k : Int) y) 114 (k : Int) (I 129 k)) 115 (k : Int) (I 130 k) 114 k = I 129 k := by rw [pw_up_other (by omega), pw_up_self]
          have w3 : pw_up (pw_up (pw_up J 113 (k : Int) y) 114 (k : Int) (I 129 k)) 115 (k : Int) (I 130 k) 115 k = I 130 k := pw_up_self _ _ _ _
          have r := ih (6 - (k + 1)) (by omega) (k + 1) (pw_up (pw_up (pw_up J 113 (k : Int) y) 114 (k : Int) (I 129 k)) 115 (k : Int) (I 130 k)) rfl (by omega) (fun q z g => by rw [w q z (by omega), fr q z g]) (by rw [w _ _ (by omega)]; exact e1) (by rw [w _ _ (by omega)]; exact e14) (fun j j0 j1 => by
            by_cases q : j = (k : Int)
            · subst q; rw [w1, w2, w3]; exact ⟨hy, rfl, rfl⟩
            · rw [w _ _ (by omega), w _ _ (by omega), w _ _ (by omega)]; exact rws j j0 (by omega))
          refine PW.aload_n (pc := 36) dX11_becomes_36 rfl ?_
          refine PW.getr (pc := 37) dX11_becomes_37 fl_X11_13 M.g112 M.r3 ?_
          refine PW.iload_n (pc := 40) dX11_becomes_40 rfl ?_
          refine PW.aload_n (pc := 41) dX11_becomes_41 rfl ?_
          refine PW.getr (pc := 42) dX11_becomes_42 fl_X11_59 M.g112 M.r27 ?_
          refine PW.iload_n (pc := 45) dX11_becomes_45 rfl ?_
          refine PW.iald (pc := 46) dX11_becomes_46 M.g129 (by omega) (by omega) (by omega) ?_
          rw [x1]
          refine PW.iast (pc := 47) dX11_becomes_47 M.g114 (by omega) (by omega) (by omega) ?_
          refine PW.aload_n (pc := 48) dX11_becomes_48 rfl ?_
          refine PW.getr (pc := 49) dX11_becomes_49 fl_X11_17 M.g112 M.r4 ?_
          refine PW.iload_n (pc := 52) dX11_becomes_52 rfl ?_
          refine PW.aload_n (pc := 53) dX11_becomes_53 rfl ?_
          refine PW.getr (pc := 54) dX11_becomes_54 fl_X11_62 M.g112 M.r28 ?_
          refine PW.iload_n (pc := 57) dX11_becomes_57 rfl ?_
          refine PW.iald (pc := 58) dX11_becomes_58 M.g130 (by omega) (by omega) (by omega) ?_
          rw [x2]
          refine PW.iast (pc := 59) dX11_becomes_59 M.g115 (by omega) (by omega) (by omega) ?_
          refine PW.iinc (pc := 60) dX11_becomes_60 rfl (by decide) ?_
          refine PW.goto (pc := 63) (tgt := 18) dX11_becomes_63 (by decide) ?_
          exact r
        refine PW.iload_n (pc := 18) dX11_becomes_18 rfl ?_
        refine PW.bipush (pc := 19) dX11_becomes_19 (by decide) ?_
        refine PW.icmp_ge (pc := 21) (tgt := 66) dX11_becomes_21 (by decide) (by first | omega | exact rg_of _) (by first | omega | exact rg_of _) (fun c_21 => ?_) (fun c_21 => ?_)
        · omega
        · refine PW.aload_n (pc := 24) dX11_becomes_24 rfl ?_
          refine PW.getr (pc := 25) dX11_becomes_25 fl_X11_7 M.g112 M.r2 ?_
          refine PW.iload_n (pc := 28) dX11_becomes_28 rfl ?_
          refine PW.aload_n (pc := 29) dX11_becomes_29 rfl ?_
          refine PW.getr (pc := 30) dX11_becomes_30 fl_X11_56 M.g112 M.r26 ?_
          refine PW.iload_n (pc := 33) dX11_becomes_33 rfl ?_
          refine PW.zald (pc := 34) dX11_becomes_34 M.g128 (by omega) (by omega) (by omega) ?_
          rw [e128]
          refine PW.zastU (pc := 35) dX11_becomes_35 M.g113 (by omega) (by omega) (by omega) (fun y_35 hy_35 => ?_)
          exact nx _ hy_35
      · obtain rfl : k = 6 := by omega
        have e29 : J 112 29 = σ.2.2 := by rw [fr _ _ (by omega)]; exact P1
        have y : ∀ q z, ¬ (q = 116 ∧ z = 0) → pw_up J 116 0 (σ.2.2 : Int) q z = J q z := fun q z g => pw_up_other g
        refine PW.iload_n (pc := 18) dX11_becomes_18 rfl ?_
        refine PW.bipush (pc := 19) dX11_becomes_19 (by decide) ?_
        refine PW.icmp_ge (pc := 21) (tgt := 66) dX11_becomes_21 (by decide) (by first | omega | exact rg_of _) (by first | omega | exact rg_of _) (fun c_21 => ?_) (fun c_21 => ?_)
        · refine PW.aload_n (pc := 66) dX11_becomes_66 rfl ?_
          refine PW.getr (pc := 67) dX11_becomes_67 fl_X11_20 M.g112 M.r5 ?_
          refine PW.iconst (pc := 70) dX11_becomes_70 ?_
          refine PW.aload_n (pc := 71) dX11_becomes_71 rfl ?_
          refine PW.geti (pc := 72) dX11_becomes_72 fl_X11_148 (by decide) M.g112 ?_
          rw [e29]
          refine PW.iast (pc := 75) dX11_becomes_75 M.g116 (by omega) (by omega) (by omega) ?_
          refine PW.iconst (pc := 76) dX11_becomes_76 ?_
          refine PW.istore_n (pc := 77) dX11_becomes_77 (by decide) ?_
          exact loop2 24 0 _ rfl (by omega) (fun q z g => by rw [y q z (by omega), fr q z (by omega)]) (by rw [y _ _ (by omega)]; exact e1) (by rw [y _ _ (by omega)]; exact e14) (fun j j0 j1 => by rw [y _ _ (by omega), y _ _ (by omega), y _ _ (by omega)]; exact rws j j0 j1) (pw_up_self _ _ _ _) (fun j j0 j1 _ => by omega)
        · omega
  have x25 : pw_up I 112 14 (I 112 13) 112 25 = σ.1.1 := by rw [pw_up_other (by omega)]; exact F1
  refine PC.ofPW (by decide) (Nat.le_of_ble_eq_true rfl) ?_
  refine PW.aload_n (pc := 0) dX11_becomes_0 rfl ?_
  refine PW.aload_n (pc := 1) dX11_becomes_1 rfl ?_
  refine PW.geti (pc := 2) dX11_becomes_2 fl_X11_112 (by decide) M.g112 ?_
  refine PW.puti (pc := 5) dX11_becomes_5 fl_X11_119 M.g112 ?_
  refine PW.aload_n (pc := 8) dX11_becomes_8 rfl ?_
  refine PW.aload_n (pc := 9) dX11_becomes_9 rfl ?_
  refine PW.geti (pc := 10) dX11_becomes_10 fl_X11_141 (by decide) M.g112 ?_
  rw [x25]
  refine PW.puti (pc := 13) dX11_becomes_13 fl_X11_162 M.g112 ?_
  refine PW.iconst (pc := 16) dX11_becomes_16 ?_
  refine PW.istore_n (pc := 17) dX11_becomes_17 (by decide) ?_
  exact loop1 6 0 _ rfl (by omega) (fun q z g => by rw [pw_up_other (by omega), pw_up_other (by omega)]) (pw_up_self _ _ _ _) (by rw [pw_up_other (by omega), pw_up_self]) (fun j j0 j1 => by omega)
end MBEGIN2
