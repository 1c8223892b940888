section PWRULES
variable {sc : PSc} {μ : PMI} {d kc ks : Nat} {post : PPost} {pc : Nat} {L : List (Option PV)} {st : List PV} {Γ : List PTy} {I : PIm} {R : PRm}
abbrev Rg (x : Int) : Prop := -2147483648 ≤ x ∧ x ≤ 2147483647
theorem rg_toInt {x : Int} (h : Rg x) : (Int32.ofInt x).toInt = x := Int32.toInt_ofInt_of_le (by have := h.1; omega) (by have := h.2; omega)
theorem rg_of (x : Int32) : Rg x.toInt := ⟨by have := Int32.le_toInt x; omega, by have := Int32.toInt_lt x; omega⟩
theorem rg_lt {x y : Int} (hx : Rg x) (hy : Rg y) : Int32.ofInt x < Int32.ofInt y ↔ x < y := by rw [Int32.lt_iff_toInt_lt, rg_toInt hx, rg_toInt hy]
theorem rg_le {x y : Int} (hx : Rg x) (hy : Rg y) : Int32.ofInt x ≤ Int32.ofInt y ↔ x ≤ y := by rw [Int32.le_iff_toInt_le, rg_toInt hx, rg_toInt hy]
theorem rg_eq {x y : Int} (hx : Rg x) (hy : Rg y) : Int32.ofInt x = Int32.ofInt y ↔ x = y := by rw [← Int32.toInt_inj, rg_toInt hx, rg_toInt hy]
def pw_and (x y : Int) : Int := (Int32.ofInt x &&& Int32.ofInt y).toInt
def pw_or (x y : Int) : Int := (Int32.ofInt x ||| Int32.ofInt y).toInt
def pw_xor (x y : Int) : Int := (Int32.ofInt x ^^^ Int32.ofInt y).toInt
def pw_shl (x y : Int) : Int := (Int32.ofInt x <<< (Int32.ofInt y &&& 31)).toInt
def pw_shr (x y : Int) : Int := (Int32.ofInt x >>> (Int32.ofInt y &&& 31)).toInt
def pw_div (x y : Int) : Int := (Int32.ofInt x / Int32.ofInt y).toInt
def pw_rem (x y : Int) : Int := (Int32.ofInt x - Int32.ofInt x / Int32.ofInt y * Int32.ofInt y).toInt
def pw_ushr (x y : Int) : Int := ((Int32.ofInt x).toUInt32 >>> ((Int32.ofInt y).toUInt32 &&& Int32.toUInt32 31)).toInt32.toInt
def pw_up (I : PIm) (a : Nat) (i v : Int) : PIm := fun b j => if b = a ∧ j = i then v else I b j
def pw_upr (R : PRm) (a : Nat) (i : Int) (v : Option Nat) : PRm := fun b j => if b = a ∧ j = i then v else R b j
/-! constants, locals, stack -/
theorem PW.iconst {n : Int} (hd : decode μ.2.1 pc = .ok (.iconst n, 1)) (k : PW sc μ d kc ks post (pc + 1) L (.inl n :: st) Γ I R) : PW sc μ d kc ks post pc L st Γ I R := by
  intro w p l e RM s m args below meth c Q C fin H locs cells slots ls hR hS h1 h2 hl
  exact lv_iconst C.1 C.2.1 hd rfl (k w p l e RM s m args below meth c Q C fin H locs cells slots ls hR hS h1 h2 hl)
theorem PW.bipush {n : Int} (hd : decode μ.2.1 pc = .ok (.bipush n, 2)) (hn : (Int8.ofInt n).toInt32 = Int32.ofInt n) (k : PW sc μ d kc ks post (pc + 2) L (.inl n :: st) Γ I R) : PW sc μ d kc ks post pc L st Γ I R := by
  intro w p l e RM s m args below meth c Q C fin H locs cells slots ls hR hS h1 h2 hl
  exact lv_bipush C.1 C.2.1 hd hn (k w p l e RM s m args below meth c Q C fin H locs cells slots ls hR hS h1 h2 hl)
theorem PW.sipush {n : Int} (hd : decode μ.2.1 pc = .ok (.sipush n, 3)) (hn : (Int16.ofInt n).toInt32 = Int32.ofInt n) (k : PW sc μ d kc ks post (pc + 3) L (.inl n :: st) Γ I R) : PW sc μ d kc ks post pc L st Γ I R := by
  intro w p l e RM s m args below meth c Q C fin H locs cells slots ls hR hS h1 h2 hl
  exact lv_sipush C.1 C.2.1 hd hn (k w p l e RM s m args below meth c Q C fin H locs cells slots ls hR hS h1 h2 hl)
theorem PW.ldcw {idx : Nat} {v : Int32} {z : Int} (hd : decode μ.2.1 pc = .ok (.ldc_w idx, 3)) (hw : Jvm.Cond.constant μ.1.cls idx v ∈ pw_gw) (hz : Int32.ofInt z = v) (k : PW sc μ d kc ks post (pc + 3) L (.inl z :: st) Γ I R) : PW sc μ d kc ks post pc L st Γ I R := by
  intro w p l e RM s m args below meth c Q C fin H locs cells slots ls hR hS h1 h2 hl
  subst hz
  exact lv_ldcw C.1 C.2.1 C.2.2.2.1 (C.2.2.2.2.1 _ hw) hd (k w p l e RM s m args below meth c Q C fin H locs cells slots ls hR hS h1 h2 hl)
theorem PW.iload_n {j : Fin 4} {x : Int} (hd : decode μ.2.1 pc = .ok (.iload_n j, 1)) (hv : L[(j : Nat)]? = some (some (.inl x))) (k : PW sc μ d kc ks post (pc + 1) L (.inl x :: st) Γ I R) : PW sc μ d kc ks post pc L st Γ I R := by
  intro w p l e RM s m args below meth c Q C fin H locs cells slots ls hR hS h1 h2 hl
  exact lv_iload_n C.1 C.2.1 hd rfl (hl.get hv) (k w p l e RM s m args below meth c Q C fin H locs cells slots ls hR hS h1 h2 hl)
theorem PW.iload {j : Nat} {x : Int} (hd : decode μ.2.1 pc = .ok (.iload j, 2)) (hv : L[j]? = some (some (.inl x))) (k : PW sc μ d kc ks post (pc + 2) L (.inl x :: st) Γ I R) : PW sc μ d kc ks post pc L st Γ I R := by
  intro w p l e RM s m args below meth c Q C fin H locs cells slots ls hR hS h1 h2 hl
  exact lv_iload C.1 C.2.1 hd (hl.get hv) (k w p l e RM s m args below meth c Q C fin H locs cells slots ls hR hS h1 h2 hl)
theorem PW.aload_n {j : Fin 4} {x : Nat} (hd : decode μ.2.1 pc = .ok (.aload_n j, 1)) (hv : L[(j : Nat)]? = some (some (.inr (some x)))) (k : PW sc μ d kc ks post (pc + 1) L (.inr (some x) :: st) Γ I R) : PW sc μ d kc ks post pc L st Γ I R := by
  intro w p l e RM s m args below meth c Q C fin H locs cells slots ls hR hS h1 h2 hl
  exact lv_aload_n C.1 C.2.1 hd rfl (hl.get hv) (k w p l e RM s m args below meth c Q C fin H locs cells slots ls hR hS h1 h2 hl)
theorem PW.istore_n {j : Fin 4} {x : Int} (hd : decode μ.2.1 pc = .ok (.istore_n j, 1)) (hn : (j : Nat) < μ.2.2.1) (k : PW sc μ d kc ks post (pc + 1) (L.set (j : Nat) (some (.inl x))) st Γ I R) : PW sc μ d kc ks post pc L (.inl x :: st) Γ I R := by
  intro w p l e RM s m args below meth c Q C fin H locs cells slots ls hR hS h1 h2 hl
  exact lv_istore_n C.1 C.2.1 hd rfl hl.has hn rfl (fun ls' h' => k w p l e RM s m args below meth c Q C fin H locs cells slots ls' hR hS h1 h2 (pw_L.put (v := .inl x) hl.1 h'))
theorem PW.istore {j : Nat} {x : Int} (hd : decode μ.2.1 pc = .ok (.istore j, 2)) (hn : j < μ.2.2.1) (k : PW sc μ d kc ks post (pc + 2) (L.set j (some (.inl x))) st Γ I R) : PW sc μ d kc ks post pc L (.inl x :: st) Γ I R := by
  intro w p l e RM s m args below meth c Q C fin H locs cells slots ls hR hS h1 h2 hl
  exact lv_istore C.1 C.2.1 hd hl.has hn rfl (fun ls' h' => k w p l e RM s m args below meth c Q C fin H locs cells slots ls' hR hS h1 h2 (pw_L.put (v := .inl x) hl.1 h'))
theorem PW.astore_n {j : Fin 4} {x : Nat} (hd : decode μ.2.1 pc = .ok (.astore_n j, 1)) (hn : (j : Nat) < μ.2.2.1) (k : PW sc μ d kc ks post (pc + 1) (L.set (j : Nat) (some (.inr (some x)))) st Γ I R) : PW sc μ d kc ks post pc L (.inr (some x) :: st) Γ I R := by
  intro w p l e RM s m args below meth c Q C fin H locs cells slots ls hR hS h1 h2 hl
  exact lv_astore_n C.1 C.2.1 hd rfl hl.has hn rfl (fun ls' h' => k w p l e RM s m args below meth c Q C fin H locs cells slots ls' hR hS h1 h2 (pw_L.put (v := .inr (some x)) hl.1 h'))
theorem PW.iinc {j : Nat} {n x : Int} (hd : decode μ.2.1 pc = .ok (.iinc j n, 3)) (hv : L[j]? = some (some (.inl x))) (hn : j < μ.2.2.1) (k : PW sc μ d kc ks post (pc + 3) (L.set j (some (.inl (x + n)))) st Γ I R) : PW sc μ d kc ks post pc L st Γ I R := by
  intro w p l e RM s m args below meth c Q C fin H locs cells slots ls hR hS h1 h2 hl
  obtain ⟨q, hq⟩ := List.getElem?_of_mem (pw_pairs_mem (w := w) (q := (j, pw_tv w (.inl x))) |>.mpr ⟨.inl x, hv, rfl⟩)
  exact lv_iinc (x := Int32.ofInt x) (v := Int32.ofInt (x + n)) C.1 C.2.1 hd hl.has hq (by rw [Int32.ofInt_add]) hn rfl (fun ls' h' => k w p l e RM s m args below meth c Q C fin H locs cells slots ls' hR hS h1 h2 (pw_L.put (v := .inl (x + n)) hl.1 h'))
theorem PW.dup {v : PV} (hd : decode μ.2.1 pc = .ok (.dup, 1)) (k : PW sc μ d kc ks post (pc + 1) L (v :: v :: st) Γ I R) : PW sc μ d kc ks post pc L (v :: st) Γ I R := by
  intro w p l e RM s m args below meth c Q C fin H locs cells slots ls hR hS h1 h2 hl
  exact lv_dup C.1 C.2.1 hd (pw_tv_cat w v) (k w p l e RM s m args below meth c Q C fin H locs cells slots ls hR hS h1 h2 hl)
theorem PW.dup2 {v u : PV} (hd : decode μ.2.1 pc = .ok (.dup2, 1)) (k : PW sc μ d kc ks post (pc + 1) L (v :: u :: v :: u :: st) Γ I R) : PW sc μ d kc ks post pc L (v :: u :: st) Γ I R := by
  intro w p l e RM s m args below meth c Q C fin H locs cells slots ls hR hS h1 h2 hl
  exact lv_dup2_11 C.1 C.2.1 hd (pw_tv_cat w v) (pw_tv_cat w u) (k w p l e RM s m args below meth c Q C fin H locs cells slots ls hR hS h1 h2 hl)
theorem PW.pop {v : PV} (hd : decode μ.2.1 pc = .ok (.pop, 1)) (k : PW sc μ d kc ks post (pc + 1) L st Γ I R) : PW sc μ d kc ks post pc L (v :: st) Γ I R := by
  intro w p l e RM s m args below meth c Q C fin H locs cells slots ls hR hS h1 h2 hl
  exact lv_pop C.1 C.2.1 hd (pw_tv_cat w v) (k w p l e RM s m args below meth c Q C fin H locs cells slots ls hR hS h1 h2 hl)
theorem PW.weak {L' : List (Option PV)} (hl' : L'.length = L.length) (hs : ∀ (j : Nat) (u : PV), L'[j]? = some (some u) → L[j]? = some (some u)) (k : PW sc μ d kc ks post pc L' st Γ I R) : PW sc μ d kc ks post pc L st Γ I R := by
  intro w p l e RM s m args below meth c Q C fin H locs cells slots ls hR hS h1 h2 hl
  exact k w p l e RM s m args below meth c Q C fin H locs cells slots ls hR hS h1 h2 (hl.weak hl' hs)
theorem PW.goto {off : Int} {tgt : Nat} (hd : decode μ.2.1 pc = .ok (.goto off, 3)) (ht : (pc : Int) + off = (tgt : Int)) (k : PW sc μ d kc ks post tgt L st Γ I R) : PW sc μ d kc ks post pc L st Γ I R := by
  intro w p l e RM s m args below meth c Q C fin H locs cells slots ls hR hS h1 h2 hl
  exact lv_goto C.1 C.2.1 hd ht (k w p l e RM s m args below meth c Q C fin H locs cells slots ls hR hS h1 h2 hl)
theorem PW.iadd {x y : Int} (hd : decode μ.2.1 pc = .ok (.iadd, 1)) (k : PW sc μ d kc ks post (pc + 1) L (.inl (x + y) :: st) Γ I R) : PW sc μ d kc ks post pc L (.inl y :: .inl x :: st) Γ I R := by
  intro w p l e RM s m args below meth c Q C fin H locs cells slots ls hR hS h1 h2 hl
  have k' := k w p l e RM s m args below meth c Q C fin H locs cells slots ls hR hS h1 h2 hl
  rw [List.map_cons, show pw_tv w (.inl (x + y)) = .int (Int32.ofInt (x + y)) from rfl, Int32.ofInt_add] at k'
  exact lv_iadd C.1 C.2.1 hd k'
theorem PW.isub {x y : Int} (hd : decode μ.2.1 pc = .ok (.isub, 1)) (k : PW sc μ d kc ks post (pc + 1) L (.inl (x - y) :: st) Γ I R) : PW sc μ d kc ks post pc L (.inl y :: .inl x :: st) Γ I R := by
  intro w p l e RM s m args below meth c Q C fin H locs cells slots ls hR hS h1 h2 hl
  have k' := k w p l e RM s m args below meth c Q C fin H locs cells slots ls hR hS h1 h2 hl
  rw [List.map_cons, show pw_tv w (.inl (x - y)) = .int (Int32.ofInt (x - y)) from rfl, Int32.ofInt_sub] at k'
  exact lv_isub C.1 C.2.1 hd k'
theorem PW.imul {x y : Int} (hd : decode μ.2.1 pc = .ok (.imul, 1)) (k : PW sc μ d kc ks post (pc + 1) L (.inl (x * y) :: st) Γ I R) : PW sc μ d kc ks post pc L (.inl y :: .inl x :: st) Γ I R := by
  intro w p l e RM s m args below meth c Q C fin H locs cells slots ls hR hS h1 h2 hl
  have k' := k w p l e RM s m args below meth c Q C fin H locs cells slots ls hR hS h1 h2 hl
  rw [List.map_cons, show pw_tv w (.inl (x * y)) = .int (Int32.ofInt (x * y)) from rfl, Int32.ofInt_mul] at k'
  exact lv_imul C.1 C.2.1 hd k'
theorem PW.iand {x y : Int} (hd : decode μ.2.1 pc = .ok (.iand, 1)) (k : PW sc μ d kc ks post (pc + 1) L (.inl (pw_and x y) :: st) Γ I R) : PW sc μ d kc ks post pc L (.inl y :: .inl x :: st) Γ I R := by
  intro w p l e RM s m args below meth c Q C fin H locs cells slots ls hR hS h1 h2 hl
  have k' := k w p l e RM s m args below meth c Q C fin H locs cells slots ls hR hS h1 h2 hl
  rw [List.map_cons, show pw_tv w (.inl (pw_and x y)) = .int (Int32.ofInt (pw_and x y)) from rfl, pw_and, Int32.ofInt_toInt] at k'
  exact lv_iand C.1 C.2.1 hd k'
theorem PW.ior {x y : Int} (hd : decode μ.2.1 pc = .ok (.ior, 1)) (k : PW sc μ d kc ks post (pc + 1) L (.inl (pw_or x y) :: st) Γ I R) : PW sc μ d kc ks post pc L (.inl y :: .inl x :: st) Γ I R := by
  intro w p l e RM s m args below meth c Q C fin H locs cells slots ls hR hS h1 h2 hl
  have k' := k w p l e RM s m args below meth c Q C fin H locs cells slots ls hR hS h1 h2 hl
  rw [List.map_cons, show pw_tv w (.inl (pw_or x y)) = .int (Int32.ofInt (pw_or x y)) from rfl, pw_or, Int32.ofInt_toInt] at k'
  exact lv_ior C.1 C.2.1 hd k'
theorem PW.ixor {x y : Int} (hd : decode μ.2.1 pc = .ok (.ixor, 1)) (k : PW sc μ d kc ks post (pc + 1) L (.inl (pw_xor x y) :: st) Γ I R) : PW sc μ d kc ks post pc L (.inl y :: .inl x :: st) Γ I R := by
  intro w p l e RM s m args below meth c Q C fin H locs cells slots ls hR hS h1 h2 hl
  have k' := k w p l e RM s m args below meth c Q C fin H locs cells slots ls hR hS h1 h2 hl
  rw [List.map_cons, show pw_tv w (.inl (pw_xor x y)) = .int (Int32.ofInt (pw_xor x y)) from rfl, pw_xor, Int32.ofInt_toInt] at k'
  exact lv_ixor C.1 C.2.1 hd k'
theorem PW.ishl {x y : Int} (hd : decode μ.2.1 pc = .ok (.ishl, 1)) (k : PW sc μ d kc ks post (pc + 1) L (.inl (pw_shl x y) :: st) Γ I R) : PW sc μ d kc ks post pc L (.inl y :: .inl x :: st) Γ I R := by
  intro w p l e RM s m args below meth c Q C fin H locs cells slots ls hR hS h1 h2 hl
  have k' := k w p l e RM s m args below meth c Q C fin H locs cells slots ls hR hS h1 h2 hl
  rw [List.map_cons, show pw_tv w (.inl (pw_shl x y)) = .int (Int32.ofInt (pw_shl x y)) from rfl, pw_shl, Int32.ofInt_toInt] at k'
  exact lv_ishl C.1 C.2.1 hd k'
theorem PW.ishr {x y : Int} (hd : decode μ.2.1 pc = .ok (.ishr, 1)) (k : PW sc μ d kc ks post (pc + 1) L (.inl (pw_shr x y) :: st) Γ I R) : PW sc μ d kc ks post pc L (.inl y :: .inl x :: st) Γ I R := by
  intro w p l e RM s m args below meth c Q C fin H locs cells slots ls hR hS h1 h2 hl
  have k' := k w p l e RM s m args below meth c Q C fin H locs cells slots ls hR hS h1 h2 hl
  rw [List.map_cons, show pw_tv w (.inl (pw_shr x y)) = .int (Int32.ofInt (pw_shr x y)) from rfl, pw_shr, Int32.ofInt_toInt] at k'
  exact lv_ishr C.1 C.2.1 hd k'
theorem PW.idiv {x y : Int} (hd : decode μ.2.1 pc = .ok (.idiv, 1)) (hy : Rg y) (h0 : y ≠ 0) (k : PW sc μ d kc ks post (pc + 1) L (.inl (pw_div x y) :: st) Γ I R) : PW sc μ d kc ks post pc L (.inl y :: .inl x :: st) Γ I R := by
  intro w p l e RM s m args below meth c Q C fin H locs cells slots ls hR hS h1 h2 hl
  have k' := k w p l e RM s m args below meth c Q C fin H locs cells slots ls hR hS h1 h2 hl
  rw [List.map_cons, show pw_tv w (.inl (pw_div x y)) = .int (Int32.ofInt (pw_div x y)) from rfl, pw_div, Int32.ofInt_toInt] at k'
  exact lv_idiv C.1 C.2.1 hd (fun h => h0 ((rg_eq hy (by decide)).mp h)) k'
theorem PW.irem {x y : Int} (hd : decode μ.2.1 pc = .ok (.irem, 1)) (hy : Rg y) (h0 : y ≠ 0) (k : PW sc μ d kc ks post (pc + 1) L (.inl (pw_rem x y) :: st) Γ I R) : PW sc μ d kc ks post pc L (.inl y :: .inl x :: st) Γ I R := by
  intro w p l e RM s m args below meth c Q C fin H locs cells slots ls hR hS h1 h2 hl
  have k' := k w p l e RM s m args below meth c Q C fin H locs cells slots ls hR hS h1 h2 hl
  rw [List.map_cons, show pw_tv w (.inl (pw_rem x y)) = .int (Int32.ofInt (pw_rem x y)) from rfl, pw_rem, Int32.ofInt_toInt] at k'
  exact lv_irem C.1 C.2.1 hd (fun h => h0 ((rg_eq hy (by decide)).mp h)) k'
theorem PW.iushr {x y : Int} (hd : decode μ.2.1 pc = .ok (.iushr, 1)) (k : PW sc μ d kc ks post (pc + 1) L (.inl (pw_ushr x y) :: st) Γ I R) : PW sc μ d kc ks post pc L (.inl y :: .inl x :: st) Γ I R := by
  intro w p l e RM s m args below meth c Q C fin H locs cells slots ls hR hS h1 h2 hl
  have k' := k w p l e RM s m args below meth c Q C fin H locs cells slots ls hR hS h1 h2 hl
  rw [List.map_cons, show pw_tv w (.inl (pw_ushr x y)) = .int (Int32.ofInt (pw_ushr x y)) from rfl, pw_ushr, Int32.ofInt_toInt] at k'
  exact lv_iushr C.1 C.2.1 hd rfl k'
theorem PW.icmp_eq {x y : Int} {off : Int} {tgt : Nat} (hd : decode μ.2.1 pc = .ok (.if_icmp .eq off, 3)) (ht : (pc : Int) + off = (tgt : Int)) (hx : Rg x) (hy : Rg y) (kt : x = y → PW sc μ d kc ks post tgt L st Γ I R) (kf : ¬ x = y → PW sc μ d kc ks post (pc + 3) L st Γ I R) : PW sc μ d kc ks post pc L (.inl y :: .inl x :: st) Γ I R := by
  intro w p l e RM s m args below meth c Q C fin H locs cells slots ls hR hS h1 h2 hl
  exact lv_icmp_eq C.1 C.2.1 hd ht (fun h => kt ((rg_eq hx hy).mp h) w p l e RM s m args below meth c Q C fin H locs cells slots ls hR hS h1 h2 hl) (fun h => kf (fun q => h ((rg_eq hx hy).mpr q)) w p l e RM s m args below meth c Q C fin H locs cells slots ls hR hS h1 h2 hl)
theorem PW.if_eq {x : Int} {off : Int} {tgt : Nat} (hd : decode μ.2.1 pc = .ok (.ifCond .eq off, 3)) (ht : (pc : Int) + off = (tgt : Int)) (hx : Rg x) (kt : x = 0 → PW sc μ d kc ks post tgt L st Γ I R) (kf : ¬ x = 0 → PW sc μ d kc ks post (pc + 3) L st Γ I R) : PW sc μ d kc ks post pc L (.inl x :: st) Γ I R := by
  intro w p l e RM s m args below meth c Q C fin H locs cells slots ls hR hS h1 h2 hl
  have hy : Rg 0 := by decide
  exact lv_if_eq C.1 C.2.1 hd ht (fun h => kt ((rg_eq hx hy).mp h) w p l e RM s m args below meth c Q C fin H locs cells slots ls hR hS h1 h2 hl) (fun h => kf (fun q => h ((rg_eq hx hy).mpr q)) w p l e RM s m args below meth c Q C fin H locs cells slots ls hR hS h1 h2 hl)
theorem PW.icmp_ne {x y : Int} {off : Int} {tgt : Nat} (hd : decode μ.2.1 pc = .ok (.if_icmp .ne off, 3)) (ht : (pc : Int) + off = (tgt : Int)) (hx : Rg x) (hy : Rg y) (kt : ¬ x = y → PW sc μ d kc ks post tgt L st Γ I R) (kf : x = y → PW sc μ d kc ks post (pc + 3) L st Γ I R) : PW sc μ d kc ks post pc L (.inl y :: .inl x :: st) Γ I R := by
  intro w p l e RM s m args below meth c Q C fin H locs cells slots ls hR hS h1 h2 hl
  exact lv_icmp_ne C.1 C.2.1 hd ht (fun h => kt (fun q => h ((rg_eq hx hy).mpr q)) w p l e RM s m args below meth c Q C fin H locs cells slots ls hR hS h1 h2 hl) (fun h => kf ((rg_eq hx hy).mp h) w p l e RM s m args below meth c Q C fin H locs cells slots ls hR hS h1 h2 hl)
theorem PW.if_ne {x : Int} {off : Int} {tgt : Nat} (hd : decode μ.2.1 pc = .ok (.ifCond .ne off, 3)) (ht : (pc : Int) + off = (tgt : Int)) (hx : Rg x) (kt : ¬ x = 0 → PW sc μ d kc ks post tgt L st Γ I R) (kf : x = 0 → PW sc μ d kc ks post (pc + 3) L st Γ I R) : PW sc μ d kc ks post pc L (.inl x :: st) Γ I R := by
  intro w p l e RM s m args below meth c Q C fin H locs cells slots ls hR hS h1 h2 hl
  have hy : Rg 0 := by decide
  exact lv_if_ne C.1 C.2.1 hd ht (fun h => kt (fun q => h ((rg_eq hx hy).mpr q)) w p l e RM s m args below meth c Q C fin H locs cells slots ls hR hS h1 h2 hl) (fun h => kf ((rg_eq hx hy).mp h) w p l e RM s m args below meth c Q C fin H locs cells slots ls hR hS h1 h2 hl)
theorem PW.icmp_lt {x y : Int} {off : Int} {tgt : Nat} (hd : decode μ.2.1 pc = .ok (.if_icmp .lt off, 3)) (ht : (pc : Int) + off = (tgt : Int)) (hx : Rg x) (hy : Rg y) (kt : x < y → PW sc μ d kc ks post tgt L st Γ I R) (kf : ¬ x < y → PW sc μ d kc ks post (pc + 3) L st Γ I R) : PW sc μ d kc ks post pc L (.inl y :: .inl x :: st) Γ I R := by
  intro w p l e RM s m args below meth c Q C fin H locs cells slots ls hR hS h1 h2 hl
  exact lv_icmp_lt C.1 C.2.1 hd ht (fun h => kt ((rg_lt hx hy).mp h) w p l e RM s m args below meth c Q C fin H locs cells slots ls hR hS h1 h2 hl) (fun h => kf (fun q => h ((rg_lt hx hy).mpr q)) w p l e RM s m args below meth c Q C fin H locs cells slots ls hR hS h1 h2 hl)
theorem PW.if_lt {x : Int} {off : Int} {tgt : Nat} (hd : decode μ.2.1 pc = .ok (.ifCond .lt off, 3)) (ht : (pc : Int) + off = (tgt : Int)) (hx : Rg x) (kt : x < 0 → PW sc μ d kc ks post tgt L st Γ I R) (kf : ¬ x < 0 → PW sc μ d kc ks post (pc + 3) L st Γ I R) : PW sc μ d kc ks post pc L (.inl x :: st) Γ I R := by
  intro w p l e RM s m args below meth c Q C fin H locs cells slots ls hR hS h1 h2 hl
  have hy : Rg 0 := by decide
  exact lv_if_lt C.1 C.2.1 hd ht (fun h => kt ((rg_lt hx hy).mp h) w p l e RM s m args below meth c Q C fin H locs cells slots ls hR hS h1 h2 hl) (fun h => kf (fun q => h ((rg_lt hx hy).mpr q)) w p l e RM s m args below meth c Q C fin H locs cells slots ls hR hS h1 h2 hl)
theorem PW.icmp_ge {x y : Int} {off : Int} {tgt : Nat} (hd : decode μ.2.1 pc = .ok (.if_icmp .ge off, 3)) (ht : (pc : Int) + off = (tgt : Int)) (hx : Rg x) (hy : Rg y) (kt : y ≤ x → PW sc μ d kc ks post tgt L st Γ I R) (kf : ¬ y ≤ x → PW sc μ d kc ks post (pc + 3) L st Γ I R) : PW sc μ d kc ks post pc L (.inl y :: .inl x :: st) Γ I R := by
  intro w p l e RM s m args below meth c Q C fin H locs cells slots ls hR hS h1 h2 hl
  exact lv_icmp_ge C.1 C.2.1 hd ht (fun h => kt ((rg_le hy hx).mp h) w p l e RM s m args below meth c Q C fin H locs cells slots ls hR hS h1 h2 hl) (fun h => kf (fun q => h ((rg_le hy hx).mpr q)) w p l e RM s m args below meth c Q C fin H locs cells slots ls hR hS h1 h2 hl)
theorem PW.if_ge {x : Int} {off : Int} {tgt : Nat} (hd : decode μ.2.1 pc = .ok (.ifCond .ge off, 3)) (ht : (pc : Int) + off = (tgt : Int)) (hx : Rg x) (kt : 0 ≤ x → PW sc μ d kc ks post tgt L st Γ I R) (kf : ¬ 0 ≤ x → PW sc μ d kc ks post (pc + 3) L st Γ I R) : PW sc μ d kc ks post pc L (.inl x :: st) Γ I R := by
  intro w p l e RM s m args below meth c Q C fin H locs cells slots ls hR hS h1 h2 hl
  have hy : Rg 0 := by decide
  exact lv_if_ge C.1 C.2.1 hd ht (fun h => kt ((rg_le hy hx).mp h) w p l e RM s m args below meth c Q C fin H locs cells slots ls hR hS h1 h2 hl) (fun h => kf (fun q => h ((rg_le hy hx).mpr q)) w p l e RM s m args below meth c Q C fin H locs cells slots ls hR hS h1 h2 hl)
theorem PW.icmp_gt {x y : Int} {off : Int} {tgt : Nat} (hd : decode μ.2.1 pc = .ok (.if_icmp .gt off, 3)) (ht : (pc : Int) + off = (tgt : Int)) (hx : Rg x) (hy : Rg y) (kt : y < x → PW sc μ d kc ks post tgt L st Γ I R) (kf : ¬ y < x → PW sc μ d kc ks post (pc + 3) L st Γ I R) : PW sc μ d kc ks post pc L (.inl y :: .inl x :: st) Γ I R := by
  intro w p l e RM s m args below meth c Q C fin H locs cells slots ls hR hS h1 h2 hl
  exact lv_icmp_gt C.1 C.2.1 hd ht (fun h => kt ((rg_lt hy hx).mp h) w p l e RM s m args below meth c Q C fin H locs cells slots ls hR hS h1 h2 hl) (fun h => kf (fun q => h ((rg_lt hy hx).mpr q)) w p l e RM s m args below meth c Q C fin H locs cells slots ls hR hS h1 h2 hl)
theorem PW.if_gt {x : Int} {off : Int} {tgt : Nat} (hd : decode μ.2.1 pc = .ok (.ifCond .gt off, 3)) (ht : (pc : Int) + off = (tgt : Int)) (hx : Rg x) (kt : 0 < x → PW sc μ d kc ks post tgt L st Γ I R) (kf : ¬ 0 < x → PW sc μ d kc ks post (pc + 3) L st Γ I R) : PW sc μ d kc ks post pc L (.inl x :: st) Γ I R := by
  intro w p l e RM s m args below meth c Q C fin H locs cells slots ls hR hS h1 h2 hl
  have hy : Rg 0 := by decide
  exact lv_if_gt C.1 C.2.1 hd ht (fun h => kt ((rg_lt hy hx).mp h) w p l e RM s m args below meth c Q C fin H locs cells slots ls hR hS h1 h2 hl) (fun h => kf (fun q => h ((rg_lt hy hx).mpr q)) w p l e RM s m args below meth c Q C fin H locs cells slots ls hR hS h1 h2 hl)
theorem PW.icmp_le {x y : Int} {off : Int} {tgt : Nat} (hd : decode μ.2.1 pc = .ok (.if_icmp .le off, 3)) (ht : (pc : Int) + off = (tgt : Int)) (hx : Rg x) (hy : Rg y) (kt : x ≤ y → PW sc μ d kc ks post tgt L st Γ I R) (kf : ¬ x ≤ y → PW sc μ d kc ks post (pc + 3) L st Γ I R) : PW sc μ d kc ks post pc L (.inl y :: .inl x :: st) Γ I R := by
  intro w p l e RM s m args below meth c Q C fin H locs cells slots ls hR hS h1 h2 hl
  exact lv_icmp_le C.1 C.2.1 hd ht (fun h => kt ((rg_le hx hy).mp h) w p l e RM s m args below meth c Q C fin H locs cells slots ls hR hS h1 h2 hl) (fun h => kf (fun q => h ((rg_le hx hy).mpr q)) w p l e RM s m args below meth c Q C fin H locs cells slots ls hR hS h1 h2 hl)
theorem PW.if_le {x : Int} {off : Int} {tgt : Nat} (hd : decode μ.2.1 pc = .ok (.ifCond .le off, 3)) (ht : (pc : Int) + off = (tgt : Int)) (hx : Rg x) (kt : x ≤ 0 → PW sc μ d kc ks post tgt L st Γ I R) (kf : ¬ x ≤ 0 → PW sc μ d kc ks post (pc + 3) L st Γ I R) : PW sc μ d kc ks post pc L (.inl x :: st) Γ I R := by
  intro w p l e RM s m args below meth c Q C fin H locs cells slots ls hR hS h1 h2 hl
  have hy : Rg 0 := by decide
  exact lv_if_le C.1 C.2.1 hd ht (fun h => kt ((rg_le hx hy).mp h) w p l e RM s m args below meth c Q C fin H locs cells slots ls hR hS h1 h2 hl) (fun h => kf (fun q => h ((rg_le hx hy).mpr q)) w p l e RM s m args below meth c Q C fin H locs cells slots ls hR hS h1 h2 hl)
theorem PW.ifnull_no {a : Nat} {off : Int} (hd : decode μ.2.1 pc = .ok (.ifnull off, 3)) (k : PW sc μ d kc ks post (pc + 3) L st Γ I R) : PW sc μ d kc ks post pc L (.inr (some a) :: st) Γ I R := by
  intro w p l e RM s m args below meth c Q C fin H locs cells slots ls hR hS h1 h2 hl
  exact lv_ifnull C.1 C.2.1 hd (k w p l e RM s m args below meth c Q C fin H locs cells slots ls hR hS h1 h2 hl)
theorem PW.ifnull_yes {off : Int} {tgt : Nat} (hd : decode μ.2.1 pc = .ok (.ifnull off, 3)) (ht : (pc : Int) + off = (tgt : Int)) (k : PW sc μ d kc ks post tgt L st Γ I R) : PW sc μ d kc ks post pc L (.inr none :: st) Γ I R := by
  intro w p l e RM s m args below meth c Q C fin H locs cells slots ls hR hS h1 h2 hl
  exact lv_ifnullN C.1 C.2.1 hd ht (k w p l e RM s m args below meth c Q C fin H locs cells slots ls hR hS h1 h2 hl)
theorem PW.lookup {dflt : Int} {ps : Array (Int × Int)} {len : Nat} {x off : Int} {tgt : Nat} (hd : decode μ.2.1 pc = .ok (.lookupswitch dflt ps, len)) (hp : (ps.toList.zip (ps.toList.drop 1)).all (fun (a, next) => a.1 < next.1) = true) (hx : Rg x) (ho : Op.lookupswitch.offset ps.toList dflt x = off) (ht : (pc : Int) + off = (tgt : Int)) (k : PW sc μ d kc ks post tgt L st Γ I R) : PW sc μ d kc ks post pc L (.inl x :: st) Γ I R := by
  intro w p l e RM s m args below meth c Q C fin H locs cells slots ls hR hS h1 h2 hl
  exact lv_lookup C.1 C.2.1 hd hp (by rw [rg_toInt hx]; exact ho) ht (k w p l e RM s m args below meth c Q C fin H locs cells slots ls hR hS h1 h2 hl)
theorem PW.tableOut {dflt lo hi : Int} {offs : Array Int} {len : Nat} {x : Int} {tgt : Nat} (hd : decode μ.2.1 pc = .ok (.tableswitch dflt lo hi offs, len)) (hx : Rg x) (h : x < lo ∨ hi < x) (ht : (pc : Int) + dflt = (tgt : Int)) (k : PW sc μ d kc ks post tgt L st Γ I R) : PW sc μ d kc ks post pc L (.inl x :: st) Γ I R := by
  intro w p l e RM s m args below meth c Q C fin H locs cells slots ls hR hS h1 h2 hl
  exact lv_tableOut C.1 C.2.1 hd (by rw [rg_toInt hx]; exact h) ht (k w p l e RM s m args below meth c Q C fin H locs cells slots ls hR hS h1 h2 hl)
theorem PW.tableIn {dflt lo hi : Int} {offs : Array Int} {len : Nat} {x off : Int} {tgt : Nat} (hd : decode μ.2.1 pc = .ok (.tableswitch dflt lo hi offs, len)) (hx : Rg x) (g1 : ¬ x < lo) (g2 : ¬ hi < x) (ho : offs[(x - lo).toNat]? = some off) (ht : (pc : Int) + off = (tgt : Int)) (k : PW sc μ d kc ks post tgt L st Γ I R) : PW sc μ d kc ks post pc L (.inl x :: st) Γ I R := by
  intro w p l e RM s m args below meth c Q C fin H locs cells slots ls hR hS h1 h2 hl
  exact lv_tableIn C.1 C.2.1 hd (by rw [rg_toInt hx]; exact g1) (by rw [rg_toInt hx]; exact g2) (by rw [rg_toInt hx]; exact ho) ht (k w p l e RM s m args below meth c Q C fin H locs cells slots ls hR hS h1 h2 hl)
theorem PW.ireturn {z : Int} (hd : decode μ.2.1 pc = .ok (.ireturn, 1)) (hr : μ.2.2.2 = some .int) (hp : post (some (.inl z)) Γ I R) : PW sc μ d kc ks post pc L [.inl z] Γ I R := by
  intro w p l e RM s m args below meth c Q C fin H locs cells slots ls hR hS h1 h2 hl
  exact fin (some (.inl z)) Γ I R H locs cells slots pc ls hp hR hS (by omega) (by omega) ⟨hd, Or.inl hr⟩
theorem PW.zreturn {z : Int} (hd : decode μ.2.1 pc = .ok (.ireturn, 1)) (hr : μ.2.2.2 = some .boolean) (hz : z = 0 ∨ z = 1) (hp : post (some (.inl z)) Γ I R) : PW sc μ d kc ks post pc L [.inl z] Γ I R := by
  intro w p l e RM s m args below meth c Q C fin H locs cells slots ls hR hS h1 h2 hl
  exact fin (some (.inl z)) Γ I R H locs cells slots pc ls hp hR hS (by omega) (by omega) ⟨hd, Or.inr ⟨hr, hz⟩⟩
theorem PW.vreturn (hd : decode μ.2.1 pc = .ok (.return_, 1)) (hr : μ.2.2.2 = none) (hp : post none Γ I R) : PW sc μ d kc ks post pc L [] Γ I R := by
  intro w p l e RM s m args below meth c Q C fin H locs cells slots ls hR hS h1 h2 hl
  exact fin none Γ I R H locs cells slots pc ls hp hR hS (by omega) (by omega) ⟨hd, hr⟩
end PWRULES
