section PWCOPY
variable {sc : PSc} {μ : PMI} {d kc ks : Nat} {post : PPost} {pc : Nat} {L : List (Option PV)} {st : List PV} {Γ : List PTy} {I : PIm} {R : PRm}
def pw_cp (I : PIm) (a0 a1 : Nat) (n : Int) : PIm := fun b j => if b = a1 ∧ 0 ≤ j ∧ j < n then I a0 j else I b j
theorem PW.copy {idx a0 a1 n0 n1 : Nat} {n : Int} (hd : decode μ.2.1 pc = .ok (.invokestatic idx, 3)) (hwd : Cond.methodLink μ.1.cls idx arraycopyName ∈ pw_gw ∧ Cond.native arraycopyName ∈ pw_gw ∧ Cond.static arraycopyName ∈ pw_gw ∧ Cond.initialized "java/lang/System" ∈ pw_gw) (g0 : Γ[a0]? = some (.inr (0, n0))) (g1 : Γ[a1]? = some (.inr (0, n1))) (hn : 0 ≤ n) (hn0 : n ≤ n0) (hn1 : n ≤ n1) (hb0 : n ≤ 2147483647) (hst : st = []) (k : PW sc μ d kc ks post (pc + 3) L st Γ (pw_cp I a0 a1 n) R) : PW sc μ d kc ks post pc L (.inl n :: .inl 0 :: .inr (some a1) :: .inl 0 :: .inr (some a0) :: st) Γ I R := by
  subst hst
  intro w p l e RM s m args below meth c Q C fin H locs cells slots ls hR hS h1 h2 hl
  have hts := C.2.2.2.2.1
  have hK := C.2.2.2.2.2.2.2.1.1
  have hf := C.2.2.2.2.2.2.1
  have hr : Rg n := by omega
  have en : (Int32.ofInt n).toNatClampNeg = n.toNat := by
    show (Int32.ofInt n).toInt.toNat = n.toNat
    rw [rg_toInt hr]
  have c0 := hR.2.2 a0 _ g0
  rw [← hR.ad g0] at c0
  have c1 := hR.2.2 a1 _ g1
  rw [← hR.ad g1] at c1
  obtain ⟨-, k0, hk0, cm0, hkk0⟩ := (hK.2 0 _ rfl).1 n0 (fun j => .int (Int32.ofInt (I a0 (j : Int))))
  obtain ⟨-, k1, hk1, cm1, hkk1⟩ := (hK.2 0 _ rfl).1 n1 (fun j => .int (Int32.ofInt (I a1 (j : Int))))
  have hnw : nativeFrameWords "java/lang/System" "arraycopy" 5 + 11 ≤ 40 := by decide +kernel
  intro T hT X
  obtain ⟨vm', X', step⟩ := X.arraycopy C.1 C.2.2.2.1 (hts _ hwd.1) (hts _ hwd.2.1) (hts _ hwd.2.2.1) (hts _ hwd.2.2.2) (src := pw_ad w a0) (dst := pw_ad w a1)
    (cs := vp_cell w.2.2.2.2.1 (n0, .inl (fun j => Int32.ofInt (I a0 (j : Int))))) (cd := vp_cell w.2.2.2.2.1 (n1, .inl (fun j => Int32.ofInt (I a1 (j : Int))))) (srcPos := 0) (destPos := 0) (n := Int32.ofInt n)
    (by rw [hT]; exact c0) (by rw [hT]; exact c1) (fun _ h => by cases h) (fun _ h => by cases h) (fun h => by cases h) (fun h => by cases h) hk0 hk1 hkk0 hkk1 (by rfl) (by decide) (by decide) (fun h => by have := (rg_lt hr (by decide : Rg 0)).mp h; omega)
    (by rw [rg_toInt hr]; show ¬ (0 : Int) + n > ((arrV _ n0 _).slots.size : Int); rw [arrV_size]; omega)
    (by rw [rg_toInt hr]; show ¬ (0 : Int) + n > ((arrV _ n1 _).slots.size : Int); rw [arrV_size]; omega)
    (fun vm₁ _ i hi => by
      rw [en] at hi
      have e : (vp_cell w.2.2.2.2.1 (n0, .inl (fun j => Int32.ofInt (I a0 (j : Int))))).slots.getD ((0 : Int32).toNatClampNeg + i) .null = .int (Int32.ofInt (I a0 (i : Int))) := by
        rw [show (0 : Int32).toNatClampNeg + i = i from Nat.zero_add i]
        show (arrV _ n0 (fun j => .int (Int32.ofInt (I a0 (j : Int))))).slots.getD _ _ = _
        rw [Array.getD_eq_getD_getElem?, arrV_read _ _ (by omega)]
        rfl
      rw [e]
      exact ⟨rfl, trivial⟩)
    (g := F0 m pc ls [.int (Int32.ofInt n), .int 0, .ref (pw_ad w a1), .int 0, .ref (pw_ad w a0)]) rfl (hl.2.1.trans C.2.2.1.symm) (rest := []) rfl (by rw [C.2.1]; exact hd) (by omega) (by show 2 * 0 + 0 + (nativeFrameWords "java/lang/System" "arraycopy" 5 + 11) ≤ _; omega)
  have e1 : copied (vp_cell w.2.2.2.2.1 (n0, .inl (fun j => Int32.ofInt (I a0 (j : Int))))) (vp_cell w.2.2.2.2.1 (n1, .inl (fun j => Int32.ofInt (I a1 (j : Int))))) 0 0 (Int32.ofInt n) = vp_cell w.2.2.2.2.1 (n1, .inl (fun j => Int32.ofInt (pw_cp I a0 a1 n a1 (j : Int)))) := by
    have := va_copied (fun z => .int z) w.2.2.2.2.1 w.2.2.2.2.1 (n0 := n0) (n1 := n1) (sp := 0) (dp := 0) (n := n.toNat) (fun j => Int32.ofInt (I a0 (j : Int))) (fun j => Int32.ofInt (I a1 (j : Int))) (by omega)
    unfold copied
    rw [en, show (0 : Int32).toNatClampNeg = 0 from rfl]
    refine this.trans ?_
    rw [vp_cell_i]
    congr 1
    funext j
    congr 1
    unfold va_cpy pw_cp
    by_cases hj : 0 ≤ j ∧ j < 0 + n.toNat
    · rw [if_pos hj, if_pos ⟨rfl, by omega, by omega⟩]
      simp
    · rw [if_neg hj, if_neg (fun q => hj (by omega))]
  rw [e1] at X' step
  have hlt : pw_ad w a1 < H.size := (Array.getElem?_eq_some_iff.mp c1).1
  generalize hH1 : H.setIfInBounds (pw_ad w a1) (vp_cell w.2.2.2.2.1 (n1, .inl (fun j => Int32.ofInt (pw_cp I a0 a1 n a1 (j : Int))))) = H1 at *
  have hheap : ((T.setVm vm').setCell (pw_ad w a1) (vp_cell w.2.2.2.2.1 (n1, .inl (fun j => Int32.ofInt (pw_cp I a0 a1 n a1 (j : Int)))))).heap = H1 := by rw [← hH1, ← hT]; rfl
  have oq : ∀ q : Nat, q ≠ pw_ad w a1 → H1[q]? = H[q]? := fun q hq => by rw [← hH1]; simp [Array.getElem?_setIfInBounds, Ne.symm hq]
  have z : H1.size = H.size := by rw [← hH1]; simp
  have K := k w p l e RM s m args below meth c Q C fin H1 _ cells slots ls (hR.store g1 (by show H1[pw_ad w a1]? = some _; rw [← hH1]; simp [Array.getElem?_setIfInBounds, hlt]) z oq (fun q hq => by funext j; simp [pw_cp, hq]) (fun _ _ => rfl))
    (⟨by rw [z]; exact hS.1, fun q f1 f2 => by rw [oq q (fun h => f2 (by rw [h]; exact pw_inA hR g1))]; exact hS.2.1 q f1 f2, fun q hq => by
      rcases List.mem_append.mp hq with h | h
      · exact hS.2.2 q h
      · obtain ⟨z', -, hz'⟩ := List.mem_map.mp h
        rw [← hz']
        exact pw_inA hR g1⟩) h1 h2 hl _ hheap X'
  obtain ⟨t, a1', b1⟩ := K
  exact ⟨t, step t a1', b1⟩
end PWCOPY
