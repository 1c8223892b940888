section INITR
variable {sc : PSc} {μ : PMI} {d kc ks : Nat} {post : PPost} {pc : Nat} {L : List (Option PV)} {st : List PV} {Γ Γ' : List PTy} {I I' : PIm} {R R' : PRm}
/-- the cells' kinds go on -/
def Gex (Γ Γ' : List PTy) (n : Nat) : Prop := Γ'.length = n ∧ ∀ (q : Nat) (T : PTy), Γ[q]? = some T → Γ'[q]? = some T
set_option maxRecDepth 100000 in
set_option maxHeartbeats 1000000 in
theorem Gex.push {b : Nat} (T : PTy) (h : Γ.length = b) : Gex Γ (Γ ++ [T]) (b + 1) ∧ (Γ ++ [T])[b]? = some T := by
  subst h
  refine ⟨⟨by simp, fun q U hq => ?_⟩, by simp⟩
  rw [List.getElem?_append_left (List.getElem?_eq_some_iff.mp hq).1]
  exact hq
set_option maxRecDepth 100000 in
set_option maxHeartbeats 1000000 in
theorem Gex.rf {n : Nat} (h : Γ.length = n) : Gex Γ Γ n := ⟨h, fun _ _ h => h⟩
set_option maxRecDepth 100000 in
set_option maxHeartbeats 1000000 in
theorem Gex.tr {Γ2 : List PTy} {n m : Nat} (a : Gex Γ Γ' n) (b : Gex Γ' Γ2 m) : Gex Γ Γ2 m := ⟨b.1, fun q T h => b.2 q T (a.2 q T h)⟩
set_option maxRecDepth 100000 in
set_option maxHeartbeats 1000000 in
theorem PW.room {kc' ks' : Nat} (h1 : kc ≤ kc') (h2 : ks ≤ ks') (k : PW sc μ d kc ks post pc L st Γ I R) : PW sc μ d kc' ks' post pc L st Γ I R := by
  intro w p l e RM s m args below meth c Q C fin H locs cells slots ls hR hS g1 g2 hl
  exact k w p l e RM s m args below meth c Q C fin H locs cells slots ls hR hS (by omega) (by omega) hl
set_option maxRecDepth 100000 in
set_option maxHeartbeats 1000000 in
theorem PW.new' {idx ci b : Nat} {C' : String} {T : u_T} (hd : decode μ.2.1 pc = .ok (.new idx, 3)) (hcl : pw_CL ci C' T) (hwd : Cond.classLink μ.1.cls idx C' ∈ pw_gw ∧ Cond.instantiable C' (pw_fn ci) ∈ pw_gw ∧ Cond.initialized C' ∈ pw_gw) (hkd : ∀ k, k < pw_fn ci → pw_kind (pw_ft ci k) ≤ 2) (hb : Γ.length = b) (hlen : b < 100000) (k : ∀ Γ', Gex Γ Γ' (b + 1) → Γ'[b]? = some (.inl ci) → PW sc μ d kc ks post (pc + 3) L (.inr (some b) :: st) Γ' (pw_zi I b) (pw_zr R b)) : PW sc μ d (kc + 1) (ks + pw_fn ci) post pc L st Γ I R := by
  subst hb
  exact PW.new hd hcl hwd hkd hlen (k _ (Gex.push _ rfl).1 (Gex.push _ rfl).2)
set_option maxRecDepth 100000 in
set_option maxHeartbeats 1000000 in
theorem PW.newi' {n : Int} {N b : Nat} (hd : decode μ.2.1 pc = .ok (.newarray .int, 2)) (hn : n = (N : Int)) (hN : N ≤ 100000) (hb : Γ.length = b) (hlen : b < 100000) (k : ∀ Γ', Gex Γ Γ' (b + 1) → Γ'[b]? = some (.inr (0, N)) → PW sc μ d kc ks post (pc + 2) L (.inr (some b) :: st) Γ' (pw_zi I b) (pw_zr R b)) : PW sc μ d (kc + 1) (ks + N) post pc L (.inl n :: st) Γ I R := by
  subst hb
  exact PW.newi hd wd_ai hn hN hlen (k _ (Gex.push _ rfl).1 (Gex.push _ rfl).2)
set_option maxRecDepth 100000 in
set_option maxHeartbeats 1000000 in
theorem PW.newz' {n : Int} {N b : Nat} (hd : decode μ.2.1 pc = .ok (.newarray .boolean, 2)) (hn : n = (N : Int)) (hN : N ≤ 100000) (hb : Γ.length = b) (hlen : b < 100000) (k : ∀ Γ', Gex Γ Γ' (b + 1) → Γ'[b]? = some (.inr (1, N)) → PW sc μ d kc ks post (pc + 2) L (.inr (some b) :: st) Γ' (pw_zi I b) (pw_zr R b)) : PW sc μ d (kc + 1) (ks + N) post pc L (.inl n :: st) Γ I R := by
  subst hb
  exact PW.newz hd wd_az hn hN hlen (k _ (Gex.push _ rfl).1 (Gex.push _ rfl).2)
set_option maxRecDepth 100000 in
set_option maxHeartbeats 1000000 in
theorem PW.newq' {idx : Nat} {n : Int} {N b : Nat} (hd : decode μ.2.1 pc = .ok (.anewarray idx, 3)) (hwd : Cond.classLink μ.1.cls idx "FlushedPipes$Setting" ∈ pw_gw) (hn : n = (N : Int)) (hN : N ≤ 100000) (hb : Γ.length = b) (hlen : b < 100000) (k : ∀ Γ', Gex Γ Γ' (b + 1) → Γ'[b]? = some (.inr (2, N)) → PW sc μ d kc ks post (pc + 3) L (.inr (some b) :: st) Γ' (pw_zi I b) (pw_zr R b)) : PW sc μ d (kc + 1) (ks + N) post pc L (.inl n :: st) Γ I R := by
  subst hb
  exact PW.newq hd hwd hn hN hlen (k _ (Gex.push _ rfl).1 (Gex.push _ rfl).2)
set_option maxRecDepth 100000 in
set_option maxHeartbeats 1000000 in
theorem pw_zi_ne {a q : Nat} (h : q ≠ a) : pw_zi I a q = I q := by
  funext z
  exact if_neg h
set_option maxRecDepth 100000 in
set_option maxHeartbeats 1000000 in
theorem pw_zi_self (a : Nat) (z : Int) : pw_zi I a a z = 0 := if_pos rfl
set_option maxRecDepth 100000 in
set_option maxHeartbeats 1000000 in
theorem pw_zr_ne {a q : Nat} (h : q ≠ a) : pw_zr R a q = R q := by
  funext z
  exact if_neg h
set_option maxRecDepth 100000 in
set_option maxHeartbeats 1000000 in
theorem ProgAt.ext {h : Nat} (A : ProgAt Γ R h) (x : ∀ (q : Nat) (T : PTy), Γ[q]? = some T → Γ'[q]? = some T) (e : R' h = R h) : ProgAt Γ' R' h := by
  unfold ProgAt; rw [e]; exact ⟨x _ _ A.1, A.2.1, x _ _ A.2.2⟩
set_option maxRecDepth 100000 in
set_option maxHeartbeats 1000000 in
theorem ReadAt.ext {h : Nat} (A : ReadAt Γ R h) (x : ∀ (q : Nat) (T : PTy), Γ[q]? = some T → Γ'[q]? = some T) (e : R' h = R h) : ReadAt Γ' R' h := by
  unfold ReadAt; rw [e]; exact ⟨x _ _ A.1, A.2.1, x _ _ A.2.2⟩
set_option maxRecDepth 100000 in
set_option maxHeartbeats 1000000 in
theorem HistAt.ext {h : Nat} (A : HistAt Γ R h) (x : ∀ (q : Nat) (T : PTy), Γ[q]? = some T → Γ'[q]? = some T) (e : R' h = R h) : HistAt Γ' R' h := by
  unfold HistAt; rw [e]; exact ⟨x _ _ A.1, A.2.1, x _ _ A.2.2⟩
set_option maxRecDepth 100000 in
set_option maxHeartbeats 1000000 in
theorem TermsAt.ext {h n : Nat} (A : TermsAt Γ R h n) (x : ∀ (q : Nat) (T : PTy), Γ[q]? = some T → Γ'[q]? = some T) (e : R' h = R h) : TermsAt Γ' R' h n := by
  obtain ⟨a0, a1, a2, a3, a4, a5, a6, a7, a8, a9, a10, a11⟩ := A
  unfold TermsAt; rw [e]; exact ⟨x _ _ a0, a1, a2, a3, a4, a5, x _ _ a6, x _ _ a7, x _ _ a8, x _ _ a9, x _ _ a10, a11⟩
set_option maxRecDepth 100000 in
set_option maxHeartbeats 1000000 in
theorem FlowAt.ext {h : Nat} (A : FlowAt Γ R h) (x : ∀ (q : Nat) (T : PTy), Γ[q]? = some T → Γ'[q]? = some T) (e : R' h = R h) : FlowAt Γ' R' h := by
  obtain ⟨a0, a1, a2, a3, a4, a5, a6, a7, a8, a9, a10, a11, a12⟩ := A
  unfold FlowAt; rw [e]; exact ⟨x _ _ a0, a1, a2, a3, a4, a5, a6, x _ _ a7, x _ _ a8, x _ _ a9, x _ _ a10, x _ _ a11, x _ _ a12⟩
set_option maxRecDepth 100000 in
set_option maxHeartbeats 1000000 in
theorem ClosAt.ext {h : Nat} (A : ClosAt Γ R h) (x : ∀ (q : Nat) (T : PTy), Γ[q]? = some T → Γ'[q]? = some T) (e : R' h = R h) : ClosAt Γ' R' h := by
  obtain ⟨a0, a1, a2, a3, a4, a5, a6⟩ := A
  unfold ClosAt; rw [e]; exact ⟨x _ _ a0, a1, a2, a3, x _ _ a4, x _ _ a5, x _ _ a6⟩
set_option maxRecDepth 100000 in
set_option maxHeartbeats 1000000 in
theorem SetAt.ext {h : Nat} (A : SetAt Γ R h) (x : ∀ (q : Nat) (T : PTy), Γ[q]? = some T → Γ'[q]? = some T) (e : ∀ q, h ≤ q → q ≤ h + 3 → R' q = R q) : SetAt Γ' R' h := by
  obtain ⟨a0, a1, a2, a3, a4⟩ := A
  unfold SetAt; rw [e h (by omega) (by omega)]; exact ⟨x _ _ a0, a1, a2, x _ _ a3, a4.ext x (e _ (by omega) (by omega))⟩
set_option maxRecDepth 100000 in
set_option maxHeartbeats 1000000 in
theorem ToldAt.ext {h : Nat} (A : ToldAt Γ R h) (x : ∀ (q : Nat) (T : PTy), Γ[q]? = some T → Γ'[q]? = some T) (e : ∀ q, h ≤ q → q ≤ h + 11 → R' q = R q) : ToldAt Γ' R' h := by
  obtain ⟨a0, a1, a2, a3, a4, a5, a6, a7, a8, a9, a10⟩ := A
  unfold ToldAt; rw [e h (by omega) (by omega)]; exact ⟨x _ _ a0, a1, a2, a3, a4, a5, x _ _ a6, x _ _ a7, x _ _ a8, a9.ext x (e _ (by omega) (by omega)), a10.ext x (e _ (by omega) (by omega))⟩
set_option maxRecDepth 100000 in
set_option maxHeartbeats 1000000 in
theorem BrkAt.ext {h : Nat} (A : BrkAt Γ R h) (x : ∀ (q : Nat) (T : PTy), Γ[q]? = some T → Γ'[q]? = some T) (e : ∀ q, h ≤ q → q ≤ h + 16 → R' q = R q) : BrkAt Γ' R' h := by
  obtain ⟨a0, a1, a2, a3, a4, a5, a6, a7, a8⟩ := A
  unfold BrkAt; rw [e h (by omega) (by omega)]; exact ⟨x _ _ a0, a1, a2, a3, a4, x _ _ a5, a6.ext x (e _ (by omega) (by omega)), a7.ext x (e _ (by omega) (by omega)), a8.ext x (e _ (by omega) (by omega))⟩
set_option maxRecDepth 100000 in
set_option maxHeartbeats 1000000 in
theorem HPos.ext {h : Nat} {ps : Int → Nat} (A : HPos Γ R h ps) (x : ∀ (q : Nat) (T : PTy), Γ[q]? = some T → Γ'[q]? = some T) (e : ∀ q, h ≤ q → q ≤ h + 41 → R' q = R q) : HPos Γ' R' h ps := by
  refine ⟨fun i i0 i1 => ?_, A.2⟩
  obtain ⟨a1, a2, a3, a4⟩ := A.1 i i0 i1
  exact ⟨by rw [e _ (by omega) (by omega)]; exact a1, a2.ext x (fun q g1 g2 => e q (by omega) (by omega)), a3, a4⟩
/-- behind a constructor of an object of n cells in all, at place b -/
def NP (Γ : List PTy) (I : PIm) (R : PRm) (b n : Nat) (X : List PTy → PIm → PRm → Prop) : PPost := fun v Γ' I' R' => v = none ∧ Gex Γ Γ' (b + n) ∧ (∀ q, q < b → I' q = I q ∧ R' q = R q) ∧ X Γ' I' R'
end INITR
section INITL
variable {sc : PSc} {Γ : List PTy} {I : PIm} {R : PRm}
set_option maxRecDepth 100000 in
set_option maxHeartbeats 1000000 in
theorem c_X5_init (d : Nat) {b : Nat} (hl : Γ.length = b + 1) (hb : Γ[b]? = some (.inl 5)) (hs : b < 99000) (hz : I b 1 = 0) : PC sc mX5_init d (0 + 1) (0 + 6) [.inr (some b)] Γ I R (NP Γ I R b 2 (fun Γ' I' R' => ProgAt Γ' R' b ∧ I' b 1 = 0)) := by
  refine PC.ofPW (by decide) (Nat.le_of_ble_eq_true rfl) ?_
  refine PW.aload_n (pc := 0) dX5_init_0 rfl ?_
  refine PW.obj (pc := 1) dX5_init_1 ob_X5_3 (Nat.le_of_ble_eq_true rfl) ?_
  refine PW.aload_n (pc := 4) dX5_init_4 rfl ?_
  refine PW.bipush (pc := 5) dX5_init_5 (by decide) ?_
  refine PW.newi' (pc := 7) (N := 6) (b := b + 1) dX5_init_7 rfl (by decide) (by have w_ := hl; omega) (by omega) (fun G_7 x_7 n_7 => ?_)
  have hb := x_7.2 _ _ hb
  refine PW.putrF (pc := 9) dX5_init_9 fl_X5_9 rfl cl_X5 (by first | assumption | rfl) ?_
  exact PW.vreturn (pc := 12) dX5_init_12 rfl (⟨rfl, x_7, fun q g => ⟨by rw [pw_zi_ne (by omega)], by rw [pw_upr_ne q (by omega), pw_zr_ne (by omega)]⟩, ⟨hb, pw_upr_self _ _ _ _, n_7⟩, by rw [pw_zi_ne (by omega)]; exact hz⟩)
set_option maxRecDepth 100000 in
set_option maxHeartbeats 1000000 in
theorem c_X6_init (d : Nat) {b : Nat} (hl : Γ.length = b + 1) (hb : Γ[b]? = some (.inl 6)) (hs : b < 99000) (hz : I b 1 = 0) : PC sc mX6_init d (0 + 1) (0 + 100) [.inr (some b)] Γ I R (NP Γ I R b 2 (fun Γ' I' R' => ReadAt Γ' R' b ∧ I' b 1 = 0)) := by
  refine PC.ofPW (by decide) (Nat.le_of_ble_eq_true rfl) ?_
  refine PW.aload_n (pc := 0) dX6_init_0 rfl ?_
  refine PW.obj (pc := 1) dX6_init_1 ob_X6_3 (Nat.le_of_ble_eq_true rfl) ?_
  refine PW.aload_n (pc := 4) dX6_init_4 rfl ?_
  refine PW.bipush (pc := 5) dX6_init_5 (by decide) ?_
  refine PW.newi' (pc := 7) (N := 100) (b := b + 1) dX6_init_7 rfl (by decide) (by have w_ := hl; omega) (by omega) (fun G_7 x_7 n_7 => ?_)
  have hb := x_7.2 _ _ hb
  refine PW.putrF (pc := 9) dX6_init_9 fl_X6_9 rfl cl_X6 (by first | assumption | rfl) ?_
  exact PW.vreturn (pc := 12) dX6_init_12 rfl (⟨rfl, x_7, fun q g => ⟨by rw [pw_zi_ne (by omega)], by rw [pw_upr_ne q (by omega), pw_zr_ne (by omega)]⟩, ⟨hb, pw_upr_self _ _ _ _, n_7⟩, by rw [pw_zi_ne (by omega)]; exact hz⟩)
set_option maxRecDepth 100000 in
set_option maxHeartbeats 1000000 in
theorem c_X4_init (d : Nat) {b : Nat} (hl : Γ.length = b + 1) (hb : Γ[b]? = some (.inl 4)) : PC sc mX4_init (d + 2) 0 0 [.inr (some b)] Γ I R (NP Γ I R b 1 (fun Γ' I' R' => Γ' = Γ ∧ R' = R ∧ I' b 0 = 2 ∧ I' b 1 = 0 ∧ I' b 2 = 0)) := by
  refine PC.ofPW (by decide) (Nat.le_of_ble_eq_true rfl) ?_
  refine PW.aload_n (pc := 0) dX4_init_0 rfl ?_
  refine PW.obj (pc := 1) dX4_init_1 ob_X4_3 (Nat.le_of_ble_eq_true rfl) ?_
  refine PW.aload_n (pc := 4) dX4_init_4 rfl ?_
  refine PW.invV0x (pc := 5) dX4_init_5 mv_X4_9 (c_X4_setFirst _ hb) (by first | assumption | rfl) rfl rfl (Nat.le_of_ble_eq_true rfl) ?_
  exact PW.vreturn (pc := 8) dX4_init_8 rfl (⟨rfl, Gex.rf hl, fun q g => ⟨by rw [pw_up_ne q (by omega), pw_up_ne q (by omega), pw_up_ne q (by omega)], rfl⟩, rfl, rfl, by rw [pw_up_other (by omega), pw_up_other (by omega), pw_up_self], by rw [pw_up_other (by omega), pw_up_self], pw_up_self _ _ _ _⟩)
set_option maxRecDepth 100000 in
set_option maxHeartbeats 1000000 in
theorem c_X1_init (d : Nat) {b : Nat} (hl : Γ.length = b + 1) (hb : Γ[b]? = some (.inl 1)) (hs : b < 99000) : PC sc mX1_init d (0 + 1 + 1 + 1) (0 + 116 + 116 + 116) [.inr (some b)] Γ I R (NP Γ I R b 4 (fun Γ' I' R' => ClosAt Γ' R' b)) := by
  refine PC.ofPW (by decide) (Nat.le_of_ble_eq_true rfl) ?_
  refine PW.aload_n (pc := 0) dX1_init_0 rfl ?_
  refine PW.obj (pc := 1) dX1_init_1 ob_X1_3 (Nat.le_of_ble_eq_true rfl) ?_
  refine PW.aload_n (pc := 4) dX1_init_4 rfl ?_
  refine PW.bipush (pc := 5) dX1_init_5 (by decide) ?_
  refine PW.newi' (pc := 7) (N := 116) (b := b + 1) dX1_init_7 rfl (by decide) (by have w_ := hl; omega) (by omega) (fun G_7 x_7 n_7 => ?_)
  have hb := x_7.2 _ _ hb
  refine PW.putrF (pc := 9) dX1_init_9 fl_X1_9 rfl cl_X1 (by first | assumption | rfl) ?_
  refine PW.aload_n (pc := 12) dX1_init_12 rfl ?_
  refine PW.bipush (pc := 13) dX1_init_13 (by decide) ?_
  refine PW.newi' (pc := 15) (N := 116) (b := b + 2) dX1_init_15 rfl (by decide) (by have w_ := x_7.1; omega) (by omega) (fun G_15 x_15 n_15 => ?_)
  have hb := x_15.2 _ _ hb
  refine PW.putrF (pc := 17) dX1_init_17 fl_X1_15 rfl cl_X1 (by first | assumption | rfl) ?_
  refine PW.aload_n (pc := 20) dX1_init_20 rfl ?_
  refine PW.bipush (pc := 21) dX1_init_21 (by decide) ?_
  refine PW.newi' (pc := 23) (N := 116) (b := b + 3) dX1_init_23 rfl (by decide) (by have w_ := x_15.1; omega) (by omega) (fun G_23 x_23 n_23 => ?_)
  have hb := x_23.2 _ _ hb
  refine PW.putrF (pc := 25) dX1_init_25 fl_X1_18 rfl cl_X1 (by first | assumption | rfl) ?_
  exact PW.vreturn (pc := 28) dX1_init_28 rfl (by
  refine ⟨rfl, (x_7.tr x_15).tr x_23, fun q g => ⟨by rw [pw_zi_ne (by omega), pw_zi_ne (by omega), pw_zi_ne (by omega)], by rw [pw_upr_ne q (by omega), pw_zr_ne (by omega), pw_upr_ne q (by omega), pw_zr_ne (by omega), pw_upr_ne q (by omega), pw_zr_ne (by omega)]⟩, hb, ?_, ?_, pw_upr_self _ _ _ _, x_23.2 _ _ (x_15.2 _ _ n_7), x_23.2 _ _ n_15, n_23⟩
  · rw [pw_upr_other (by omega), pw_zr_ne (by omega), pw_upr_other (by omega), pw_zr_ne (by omega), pw_upr_self]
  · rw [pw_upr_other (by omega), pw_zr_ne (by omega), pw_upr_self])
set_option maxRecDepth 100000 in
set_option maxHeartbeats 1000000 in
theorem c_X2_init (d : Nat) {b : Nat} (hl : Γ.length = b + 1) (hb : Γ[b]? = some (.inl 2)) (hs : b < 99000) : PC sc mX2_init d (0 + 1 + 1 + 1 + 1 + 1 + 1) (0 + 6 + 6 + 6 + 4 + 4 + 4) [.inr (some b)] Γ I R (NP Γ I R b 7 (fun Γ' I' R' => FlowAt Γ' R' b)) := by
  refine PC.ofPW (by decide) (Nat.le_of_ble_eq_true rfl) ?_
  refine PW.aload_n (pc := 0) dX2_init_0 rfl ?_
  refine PW.obj (pc := 1) dX2_init_1 ob_X2_3 (Nat.le_of_ble_eq_true rfl) ?_
  refine PW.aload_n (pc := 4) dX2_init_4 rfl ?_
  refine PW.iconst (pc := 5) dX2_init_5 ?_
  refine PW.newi' (pc := 6) (N := 4) (b := b + 1) dX2_init_6 rfl (by decide) (by have w_ := hl; omega) (by omega) (fun G_6 x_6 n_6 => ?_)
  have hb := x_6.2 _ _ hb
  refine PW.putrF (pc := 8) dX2_init_8 fl_X2_9 rfl cl_X2 (by first | assumption | rfl) ?_
  refine PW.aload_n (pc := 11) dX2_init_11 rfl ?_
  refine PW.iconst (pc := 12) dX2_init_12 ?_
  refine PW.newi' (pc := 13) (N := 4) (b := b + 2) dX2_init_13 rfl (by decide) (by have w_ := x_6.1; omega) (by omega) (fun G_13 x_13 n_13 => ?_)
  have hb := x_13.2 _ _ hb
  refine PW.putrF (pc := 15) dX2_init_15 fl_X2_15 rfl cl_X2 (by first | assumption | rfl) ?_
  refine PW.aload_n (pc := 18) dX2_init_18 rfl ?_
  refine PW.iconst (pc := 19) dX2_init_19 ?_
  refine PW.newi' (pc := 20) (N := 4) (b := b + 3) dX2_init_20 rfl (by decide) (by have w_ := x_13.1; omega) (by omega) (fun G_20 x_20 n_20 => ?_)
  have hb := x_20.2 _ _ hb
  refine PW.putrF (pc := 22) dX2_init_22 fl_X2_18 rfl cl_X2 (by first | assumption | rfl) ?_
  refine PW.aload_n (pc := 25) dX2_init_25 rfl ?_
  refine PW.bipush (pc := 26) dX2_init_26 (by decide) ?_
  refine PW.newi' (pc := 28) (N := 6) (b := b + 4) dX2_init_28 rfl (by decide) (by have w_ := x_20.1; omega) (by omega) (fun G_28 x_28 n_28 => ?_)
  have hb := x_28.2 _ _ hb
  refine PW.putrF (pc := 30) dX2_init_30 fl_X2_21 rfl cl_X2 (by first | assumption | rfl) ?_
  refine PW.aload_n (pc := 33) dX2_init_33 rfl ?_
  refine PW.bipush (pc := 34) dX2_init_34 (by decide) ?_
  refine PW.newi' (pc := 36) (N := 6) (b := b + 5) dX2_init_36 rfl (by decide) (by have w_ := x_28.1; omega) (by omega) (fun G_36 x_36 n_36 => ?_)
  have hb := x_36.2 _ _ hb
  refine PW.putrF (pc := 38) dX2_init_38 fl_X2_24 rfl cl_X2 (by first | assumption | rfl) ?_
  refine PW.aload_n (pc := 41) dX2_init_41 rfl ?_
  refine PW.bipush (pc := 42) dX2_init_42 (by decide) ?_
  refine PW.newi' (pc := 44) (N := 6) (b := b + 6) dX2_init_44 rfl (by decide) (by have w_ := x_36.1; omega) (by omega) (fun G_44 x_44 n_44 => ?_)
  have hb := x_44.2 _ _ hb
  refine PW.putrF (pc := 46) dX2_init_46 fl_X2_27 rfl cl_X2 (by first | assumption | rfl) ?_
  exact PW.vreturn (pc := 49) dX2_init_49 rfl (by
  refine ⟨rfl, ((((x_6.tr x_13).tr x_20).tr x_28).tr x_36).tr x_44, fun q g => ⟨?_, ?_⟩, hb, ?_, ?_, ?_, ?_, ?_, pw_upr_self _ _ _ _, x_44.2 _ _ (x_36.2 _ _ (x_28.2 _ _ (x_20.2 _ _ (x_13.2 _ _ n_6)))), x_44.2 _ _ (x_36.2 _ _ (x_28.2 _ _ (x_20.2 _ _ n_13))), x_44.2 _ _ (x_36.2 _ _ (x_28.2 _ _ n_20)), x_44.2 _ _ (x_36.2 _ _ n_28), x_44.2 _ _ n_36, n_44⟩
  · rw [pw_zi_ne (by omega), pw_zi_ne (by omega), pw_zi_ne (by omega), pw_zi_ne (by omega), pw_zi_ne (by omega), pw_zi_ne (by omega)]
  · rw [pw_upr_ne q (by omega), pw_zr_ne (by omega), pw_upr_ne q (by omega), pw_zr_ne (by omega), pw_upr_ne q (by omega), pw_zr_ne (by omega), pw_upr_ne q (by omega), pw_zr_ne (by omega), pw_upr_ne q (by omega), pw_zr_ne (by omega), pw_upr_ne q (by omega), pw_zr_ne (by omega)]
  · rw [pw_upr_other (by omega), pw_zr_ne (by omega), pw_upr_other (by omega), pw_zr_ne (by omega), pw_upr_other (by omega), pw_zr_ne (by omega), pw_upr_other (by omega), pw_zr_ne (by omega), pw_upr_other (by omega), pw_zr_ne (by omega), pw_upr_self]
  · rw [pw_upr_other (by omega), pw_zr_ne (by omega), pw_upr_other (by omega), pw_zr_ne (by omega), pw_upr_other (by omega), pw_zr_ne (by omega), pw_upr_other (by omega), pw_zr_ne (by omega), pw_upr_self]
  · rw [pw_upr_other (by omega), pw_zr_ne (by omega), pw_upr_other (by omega), pw_zr_ne (by omega), pw_upr_other (by omega), pw_zr_ne (by omega), pw_upr_self]
  · rw [pw_upr_other (by omega), pw_zr_ne (by omega), pw_upr_other (by omega), pw_zr_ne (by omega), pw_upr_self]
  · rw [pw_upr_other (by omega), pw_zr_ne (by omega), pw_upr_self])
set_option maxRecDepth 100000 in
set_option maxHeartbeats 1000000 in
theorem c_X7_init (d : Nat) {b : Nat} (hl : Γ.length = b + 1) (hb : Γ[b]? = some (.inl 7)) (hs : b < 98000) : PC sc mX7_init (d + 3) (0 + 0 + 1 + (0 + 1) + 1) (0 + 0 + pw_fn 4 + (0 + 6) + pw_fn 5) [.inr (some b)] Γ I R (NP Γ I R b 4 (fun Γ' I' R' => SetAt Γ' R' b)) := by
  refine PC.ofPW (by decide) (Nat.le_of_ble_eq_true rfl) ?_
  refine PW.aload_n (pc := 0) dX7_init_0 rfl ?_
  refine PW.obj (pc := 1) dX7_init_1 ob_X7_1 (Nat.le_of_ble_eq_true rfl) ?_
  refine PW.aload_n (pc := 4) dX7_init_4 rfl ?_
  refine PW.new' (pc := 5) (b := b + 1) dX7_init_5 cl_X5 nw_X7_7 kd_X5 (by have w_ := hl; omega) (by omega) (fun G_5 x_5 n_5 => ?_)
  have hb := x_5.2 _ _ hb
  refine PW.dup (pc := 8) dX7_init_8 ?_
  refine PW.invN (μ := mX7_init) (pc := 9) dX7_init_9 mn_X7_9 (c_X5_init _ x_5.1 n_5 (by omega) (pw_zi_self _ _)) rfl rfl (Nat.le_of_ble_eq_true rfl) ?_
  (rintro v G9 I9 R9 ⟨rfl, x_9, f_9, p_9, z_9⟩)
  have hb := x_9.2 _ _ hb
  refine PW.putrF (pc := 12) dX7_init_12 fl_X7_10 rfl cl_X7 (by first | assumption | rfl) ?_
  refine PW.aload_n (pc := 15) dX7_init_15 rfl ?_
  refine PW.new' (pc := 16) (b := b + 3) dX7_init_16 cl_X4 nw_X7_16 kd_X4 (by have w_ := x_9.1; omega) (by omega) (fun G_16 x_16 n_16 => ?_)
  have hb := x_16.2 _ _ hb
  refine PW.dup (pc := 19) dX7_init_19 ?_
  refine PW.invI (μ := mX7_init) (pc := 20) dX7_init_20 mi_X7_18 (c_X4_init _ x_16.1 n_16) rfl rfl (Nat.le_of_ble_eq_true rfl) ?_
  (rintro v G20 I20 R20 ⟨rfl, x_20, f_20, rfl, rfl, v0, v1, v2⟩)
  have hb := x_20.2 _ _ hb
  refine PW.putrF (pc := 23) dX7_init_23 fl_X7_19 rfl cl_X7 (by first | assumption | rfl) ?_
  exact PW.vreturn (pc := 26) dX7_init_26 rfl (by
  refine ⟨rfl, ((x_5.tr x_9).tr x_16).tr x_20, fun q g => ⟨?_, ?_⟩, hb, ?_, pw_upr_self _ _ _ _, n_16, p_9.ext (fun q T h => x_16.2 _ _ h) ?_⟩
  · rw [(f_20 q (by omega)).1, pw_zi_ne (by omega), (f_9 q (by omega)).1, pw_zi_ne (by omega)]
  · rw [pw_upr_ne q (by omega), pw_zr_ne (by omega), pw_upr_ne q (by omega), (f_9 q (by omega)).2, pw_zr_ne (by omega)]
  · rw [pw_upr_other (by omega), pw_zr_ne (by omega), pw_upr_self]
  · rw [pw_upr_ne _ (by omega), pw_zr_ne (by omega), pw_upr_ne _ (by omega)])
end INITL
