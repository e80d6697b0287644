/-! OUR OWN: that the pure functions answer -/
def zok {α : Type} (o : Option α) (P : α → Prop) : Prop := ∃ x, o = some x ∧ P x
theorem zk_ret {α : Type} {x : α} {P : α → Prop} (h : P x) : zok (some x) P := ⟨x, rfl, h⟩
theorem zok_mono {α : Type} {o : Option α} {P Q : α → Prop} (h : zok o P) (hq : ∀ x, P x → Q x) : zok o Q := by
  obtain ⟨x, h1, h2⟩ := h
  exact ⟨x, h1, hq x h2⟩
theorem zk_nE {α β : Type} {x : α} {k : α → Option β} {P : β → Prop} (h : ∀ v, v = x → zok (k v) P) : zok (zn x k) P := h x rfl
theorem zk_n {α β : Type} {x : α} {k : α → Option β} {P : β → Prop} (h : zok (k x) P) : zok (zn x k) P := h
theorem zmulb {a b : Int} (A B : Int) (ha : 0 ≤ a ∧ a ≤ A) (hb : 0 ≤ b ∧ b ≤ B) : 0 ≤ a * b ∧ a * b ≤ A * B :=
  ⟨Int.mul_nonneg ha.1 hb.1, Int.mul_le_mul ha.2 hb.2 hb.1 (Int.le_trans ha.1 ha.2)⟩
theorem zmulA {a b : Int} (A B : Int) (ha : -A ≤ a ∧ a ≤ A) (hb : -B ≤ b ∧ b ≤ B) : -(A * B) ≤ a * b ∧ a * b ≤ A * B := by
  have h1 : a.natAbs ≤ A.natAbs := by omega
  have h2 : b.natAbs ≤ B.natAbs := by omega
  have h3 : (a * b).natAbs ≤ (A * B).natAbs := by
    rw [Int.natAbs_mul, Int.natAbs_mul]
    exact Nat.mul_le_mul h1 h2
  have h4 : 0 ≤ A * B := Int.mul_nonneg (by omega) (by omega)
  omega
theorem zwi {x : Int} (h : -2147483648 ≤ x ∧ x ≤ 2147483647) : zi_w x = x := by
  unfold zi_w
  exact Int32.toInt_ofInt_of_le (by omega) (by omega)
theorem zwl {x : Int} (h : -9223372036854775808 ≤ x ∧ x ≤ 9223372036854775807) : zl_w x = x := by
  unfold zl_w
  exact Int64.toInt_ofInt_of_le (by omega) (by omega)
theorem zi_r (x : Int) : -2147483648 ≤ zi_w x ∧ zi_w x ≤ 2147483647 := by
  have h1 := Int32.le_toInt (Int32.ofInt x)
  have h2 := Int32.toInt_lt (Int32.ofInt x)
  unfold zi_w
  omega
theorem zl_r (x : Int) : -9223372036854775808 ≤ zl_w x ∧ zl_w x ≤ 9223372036854775807 := by
  have h1 := Int64.le_toInt (Int64.ofInt x)
  have h2 := Int64.toInt_lt (Int64.ofInt x)
  unfold zl_w
  omega
theorem zci_eq {a b : Int} (ha : -2147483648 ≤ a ∧ a ≤ 2147483647) (hb : -2147483648 ≤ b ∧ b ≤ 2147483647) : zi_w a = zi_w b ↔ a = b := by rw [zwi ha, zwi hb]
theorem zci_ne {a b : Int} (ha : -2147483648 ≤ a ∧ a ≤ 2147483647) (hb : -2147483648 ≤ b ∧ b ≤ 2147483647) : zi_w a ≠ zi_w b ↔ a ≠ b := by rw [zwi ha, zwi hb]
theorem zci_lt {a b : Int} (ha : -2147483648 ≤ a ∧ a ≤ 2147483647) (hb : -2147483648 ≤ b ∧ b ≤ 2147483647) : zi_w a < zi_w b ↔ a < b := by rw [zwi ha, zwi hb]
theorem zci_le {a b : Int} (ha : -2147483648 ≤ a ∧ a ≤ 2147483647) (hb : -2147483648 ≤ b ∧ b ≤ 2147483647) : zi_w a ≤ zi_w b ↔ a ≤ b := by rw [zwi ha, zwi hb]
theorem zci_eqr {a b : Int} (ha : -2147483648 ≤ a ∧ a ≤ 2147483647) : zi_w a = b ↔ a = b := by rw [zwi ha]
theorem zci_ner {a b : Int} (ha : -2147483648 ≤ a ∧ a ≤ 2147483647) : zi_w a ≠ b ↔ a ≠ b := by rw [zwi ha]
theorem zci_ltr {a b : Int} (ha : -2147483648 ≤ a ∧ a ≤ 2147483647) : zi_w a < b ↔ a < b := by rw [zwi ha]
theorem zci_ler {a b : Int} (ha : -2147483648 ≤ a ∧ a ≤ 2147483647) : zi_w a ≤ b ↔ a ≤ b := by rw [zwi ha]
theorem zci_eql {a b : Int} (hb : -2147483648 ≤ b ∧ b ≤ 2147483647) : a = zi_w b ↔ a = b := by rw [zwi hb]
theorem zci_nel {a b : Int} (hb : -2147483648 ≤ b ∧ b ≤ 2147483647) : a ≠ zi_w b ↔ a ≠ b := by rw [zwi hb]
theorem zci_ltl {a b : Int} (hb : -2147483648 ≤ b ∧ b ≤ 2147483647) : a < zi_w b ↔ a < b := by rw [zwi hb]
theorem zci_lel {a b : Int} (hb : -2147483648 ≤ b ∧ b ≤ 2147483647) : a ≤ zi_w b ↔ a ≤ b := by rw [zwi hb]
theorem zcl_eq {a b : Int} (ha : -9223372036854775808 ≤ a ∧ a ≤ 9223372036854775807) (hb : -9223372036854775808 ≤ b ∧ b ≤ 9223372036854775807) : zl_w a = zl_w b ↔ a = b := by rw [zwl ha, zwl hb]
theorem zcl_ne {a b : Int} (ha : -9223372036854775808 ≤ a ∧ a ≤ 9223372036854775807) (hb : -9223372036854775808 ≤ b ∧ b ≤ 9223372036854775807) : zl_w a ≠ zl_w b ↔ a ≠ b := by rw [zwl ha, zwl hb]
theorem zcl_lt {a b : Int} (ha : -9223372036854775808 ≤ a ∧ a ≤ 9223372036854775807) (hb : -9223372036854775808 ≤ b ∧ b ≤ 9223372036854775807) : zl_w a < zl_w b ↔ a < b := by rw [zwl ha, zwl hb]
theorem zcl_le {a b : Int} (ha : -9223372036854775808 ≤ a ∧ a ≤ 9223372036854775807) (hb : -9223372036854775808 ≤ b ∧ b ≤ 9223372036854775807) : zl_w a ≤ zl_w b ↔ a ≤ b := by rw [zwl ha, zwl hb]
theorem zcl_eqr {a b : Int} (ha : -9223372036854775808 ≤ a ∧ a ≤ 9223372036854775807) : zl_w a = b ↔ a = b := by rw [zwl ha]
theorem zk_if {β : Type} {c : Prop} {i : Decidable c} {x y : Option β} {P : β → Prop} (h1 : c → zok x P) (h2 : ¬ c → zok y P) : zok (if c then x else y) P := by
  by_cases h : c
  · rw [if_pos h]; exact h1 h
  · rw [if_neg h]; exact h2 h
theorem zk_ifc {β : Type} {c c' : Prop} {i : Decidable c} {x y : Option β} {P : β → Prop} (e : c ↔ c') (h1 : c' → zok x P) (h2 : ¬ c' → zok y P) : zok (if c then x else y) P :=
  zk_if (fun h => h1 (e.mp h)) (fun h => h2 (fun q => h (e.mpr q)))
theorem zk_gb {β : Type} {v : Int} {i : Decidable (¬ (zi_w v = 0 ∨ zi_w v = 1))} {x : Option β} {P : β → Prop} (h : v = 0 ∨ v = 1) (h1 : zok x P) : zok (if ¬ (zi_w v = 0 ∨ zi_w v = 1) then none else x) P := by
  have e : zi_w v = v := zwi (by omega)
  rw [if_neg (by rw [e]; exact fun q => q h)]
  exact h1
theorem zk_gc {β : Type} {v : Int} {i : Decidable (¬ (0 ≤ zi_w v ∧ zi_w v < 128))} {x : Option β} {P : β → Prop} (h : 0 ≤ v ∧ v < 128) (h1 : zok x P) : zok (if ¬ (0 ≤ zi_w v ∧ zi_w v < 128) then none else x) P := by
  have e : zi_w v = v := zwi (by omega)
  rw [if_neg (by rw [e]; exact fun q => q h)]
  exact h1
theorem zk_g0zi_w {β : Type} {v : Int} {i : Decidable (zi_w v = 0)} {x : Option β} {P : β → Prop} (h : (-2147483648 ≤ v ∧ v ≤ 2147483647) ∧ v ≠ 0) (h1 : zok x P) : zok (if zi_w v = 0 then none else x) P := by
  rw [if_neg (by rw [zwi h.1]; exact h.2)]
  exact h1
theorem zk_g0zl_w {β : Type} {v : Int} {i : Decidable (zl_w v = 0)} {x : Option β} {P : β → Prop} (h : (-9223372036854775808 ≤ v ∧ v ≤ 9223372036854775807) ∧ v ≠ 0) (h1 : zok x P) : zok (if zl_w v = 0 then none else x) P := by
  rw [if_neg (by rw [zwl h.1]; exact h.2)]
  exact h1
theorem zk_gv {β : Type} {n : Nat} {f : Nat → Int} {i : Int} {k : Int → Option β} {P : β → Prop} (h : 0 ≤ i ∧ i < (n : Int)) (hn : n ≤ 2147483648) (hk : ∀ v, v = f i.toNat → zok (k v) P) : zok (zg n f i k) P := by
  have e : zi_w i = i := zwi (by omega)
  unfold zg
  rw [e, if_pos h]
  exact hk _ rfl
theorem zk_gl {β : Type} {n : Nat} {f : Nat → Int} {i : Int} {k : Int → Option β} {P : β → Prop} (j : Nat) (h : (j : Int) = i) (hj : j < n) (hn : n ≤ 2147483648) (hk : ∀ v, v = f j → zok (k v) P) : zok (zg n f i k) P := by
  refine zk_gv (by omega) hn (fun v hv => hk v ?_)
  rw [hv, ← h, Int.toNat_natCast]
theorem zk_sv {β : Type} {n : Nat} {f : Nat → Int} {i w : Int} {k : (Nat → Int) → Option β} {P : β → Prop} (h : 0 ≤ i ∧ i < (n : Int)) (hn : n ≤ 2147483648) (hk : ∀ a, a = zu f i.toNat w → zok (k a) P) : zok (zs n f i w k) P := by
  have e : zi_w i = i := zwi (by omega)
  unfold zs
  rw [e, if_pos h]
  exact hk _ rfl
theorem zk_sl {β : Type} {n : Nat} {f : Nat → Int} {i w : Int} {k : (Nat → Int) → Option β} {P : β → Prop} (j : Nat) (h : (j : Int) = i) (hj : j < n) (hn : n ≤ 2147483648) (hk : ∀ a, a = zu f j w → zok (k a) P) : zok (zs n f i w k) P := by
  refine zk_sv (by omega) hn (fun v hv => hk v ?_)
  rw [hv, ← h, Int.toNat_natCast]
theorem zk_cp {β : Type} {n0 n1 : Nat} {f g : Nat → Int} {a b n : Int} {k : (Nat → Int) → Option β} {P : β → Prop} (h : 0 ≤ a ∧ 0 ≤ b ∧ 0 ≤ n ∧ a + n ≤ (n0 : Int) ∧ b + n ≤ (n1 : Int) ∧ n0 ≤ 2147483647 ∧ n1 ≤ 2147483647) (hk : ∀ u, u = va_cpy f g a.toNat b.toNat n.toNat → zok (k u) P) : zok (zcp n0 f a n1 g b n k) P := by
  have e1 : zi_w a = a := zwi (by omega)
  have e2 : zi_w b = b := zwi (by omega)
  have e3 : zi_w n = n := zwi (by omega)
  unfold zcp
  rw [e1, e2, e3, if_pos (by omega)]
  exact hk _ rfl
theorem zu_eq (f : Nat → Int) (i : Nat) (v : Int) : zu f i v i = v := by unfold zu; rw [if_pos rfl]
theorem zu_ne (f : Nat → Int) {i j : Nat} (v : Int) (h : j ≠ i) : zu f i v j = f j := by unfold zu; rw [if_neg h]
theorem zu_rd {a f : Nat → Int} {i : Nat} {v : Int} (h : a = zu f i v) (j : Nat) : (j = i ∧ a j = v) ∨ (j ≠ i ∧ a j = f j) := by
  by_cases q : j = i
  · subst q; exact Or.inl ⟨rfl, by rw [h, zu_eq]⟩
  · exact Or.inr ⟨q, by rw [h, zu_ne _ _ q]⟩
/-! ranges of rows -/
def zR (f : Nat → Int) (lo hi : Int) : Prop := ∀ j, lo ≤ f j ∧ f j ≤ hi
theorem zR_w {f : Nat → Int} {a b lo hi : Int} (h : zR f a b) (h1 : lo ≤ a) (h2 : b ≤ hi) : zR f lo hi := fun j => by
  have := h j
  omega
theorem zR_zu {f : Nat → Int} {a b lo hi v : Int} {i : Nat} (h : zR f a b) (h1 : lo ≤ a) (h2 : b ≤ hi) (hv : lo ≤ v ∧ v ≤ hi) : zR (zu f i v) lo hi := fun j => by
  unfold zu
  by_cases q : j = i
  · rw [if_pos q]; exact hv
  · rw [if_neg q]
    have := h j
    omega
theorem zR_cp {f g : Nat → Int} {lo hi : Int} {s t n : Nat} (h : zR f lo hi) (h1 : zR g lo hi) : zR (va_cpy f g s t n) lo hi := fun j => by
  unfold va_cpy
  by_cases q : t ≤ j ∧ j < t + n
  · rw [if_pos q]; exact h _
  · rw [if_neg q]; exact h1 _
theorem zR_c {c lo hi : Int} (h : lo ≤ c ∧ c ≤ hi) : zR (fun _ => c) lo hi := fun _ => h
theorem zbm {n : Int} (h : -2147483648 ≤ n ∧ n ≤ 2147483647) : n.bmod (2 ^ 32) = n := by
  have h1 := zwi h
  unfold zi_w at h1
  rw [Int32.toInt_ofInt] at h1
  exact h1
theorem zbl {n : Int} (h : -9223372036854775808 ≤ n ∧ n ≤ 9223372036854775807) : n.bmod (2 ^ 64) = n := by
  have h1 := zwl h
  unfold zl_w at h1
  rw [Int64.toInt_ofInt] at h1
  exact h1
theorem zdv {x y : Int} (hx : 0 ≤ x) (hy : 0 < y) : 0 ≤ x / y ∧ x / y ≤ x ∧ 0 ≤ x / y * y ∧ x / y * y ≤ x := by
  have h1 := Int.ediv_nonneg hx (Int.le_of_lt hy)
  exact ⟨h1, Int.ediv_le_self y hx, Int.mul_nonneg h1 (Int.le_of_lt hy), Int.ediv_mul_le x (by omega)⟩
theorem zi_div_n {x y : Int} (hx : 0 ≤ x ∧ x ≤ 2147483647) (hy : 0 < y ∧ y ≤ 2147483647) : zi_div x y = x / y := by
  have hd := zdv hx.1 hy.1
  have e1 : (Int32.ofInt x).toInt = x := zwi (by omega)
  have e2 : (Int32.ofInt y).toInt = y := zwi (by omega)
  unfold zi_div
  rw [Int32.toInt_div, e1, e2, Int.tdiv_eq_ediv_of_nonneg hx.1, zbm (by omega)]
theorem zi_rem_n {x y : Int} (hx : 0 ≤ x ∧ x ≤ 2147483647) (hy : 0 < y ∧ y ≤ 2147483647) : zi_rem x y = x % y := by
  have hd := zdv hx.1 hy.1
  have e1 : (Int32.ofInt x).toInt = x := zwi (by omega)
  have e2 : (Int32.ofInt y).toInt = y := zwi (by omega)
  have e3 : (Int32.ofInt x / Int32.ofInt y).toInt = x / y := by
    rw [Int32.toInt_div, e1, e2, Int.tdiv_eq_ediv_of_nonneg hx.1, zbm (by omega)]
  unfold zi_rem
  rw [Int32.toInt_sub, Int32.toInt_mul, e1, e2, e3, zbm (n := x / y * y) (by omega), zbm (by omega), Int.emod_def, Int.mul_comm]
theorem zl_div_n {x y : Int} (hx : 0 ≤ x ∧ x ≤ 9223372036854775807) (hy : 0 < y ∧ y ≤ 9223372036854775807) : zl_div x y = x / y := by
  have hd := zdv hx.1 hy.1
  have e1 : (Int64.ofInt x).toInt = x := zwl (by omega)
  have e2 : (Int64.ofInt y).toInt = y := zwl (by omega)
  unfold zl_div
  rw [Int64.toInt_div, e1, e2, Int.tdiv_eq_ediv_of_nonneg hx.1, zbl (by omega)]
theorem zl_rem_n {x y : Int} (hx : 0 ≤ x ∧ x ≤ 9223372036854775807) (hy : 0 < y ∧ y ≤ 9223372036854775807) : zl_rem x y = x % y := by
  have hd := zdv hx.1 hy.1
  have e1 : (Int64.ofInt x).toInt = x := zwl (by omega)
  have e2 : (Int64.ofInt y).toInt = y := zwl (by omega)
  have e3 : (Int64.ofInt x / Int64.ofInt y).toInt = x / y := by
    rw [Int64.toInt_div, e1, e2, Int.tdiv_eq_ediv_of_nonneg hx.1, zbl (by omega)]
  unfold zl_rem
  rw [Int64.toInt_sub, Int64.toInt_mul, e1, e2, e3, zbl (n := x / y * y) (by omega), zbl (by omega), Int.emod_def, Int.mul_comm]
theorem zi_and_le (x : Int) {m : Int} (h : 0 ≤ m ∧ m ≤ 2147483647) : 0 ≤ zi_and x m ∧ zi_and x m ≤ m := by
  have e : zi_and x m = ((Int32.ofInt x).toBitVec &&& (Int32.ofInt m).toBitVec).toInt := rfl
  have e2 : (Int32.ofInt m).toBitVec.toInt = m := zwi (x := m) (by omega)
  have h1 : ((Int32.ofInt x).toBitVec &&& (Int32.ofInt m).toBitVec).toNat ≤ (Int32.ofInt m).toBitVec.toNat := by
    rw [BitVec.toNat_and]
    exact Nat.and_le_right
  have h2 := (Int32.ofInt m).toBitVec.isLt
  rw [BitVec.toInt_eq_toNat_cond] at e2
  rw [e, BitVec.toInt_eq_toNat_cond]
  split at e2 <;> split <;> omega
theorem zi_and_m (x : Int) {m : Int} (h : (decide (0 ≤ m) && decide (m ≤ 2147483647)) = true) : 0 ≤ zi_and x m ∧ zi_and x m ≤ m := by
  have h1 := Bool.and_eq_true_iff.mp h
  exact zi_and_le x ⟨of_decide_eq_true h1.1, of_decide_eq_true h1.2⟩
theorem zi_I (a : Int32) : -2147483648 ≤ a.toInt ∧ a.toInt ≤ 2147483647 := by
  have h1 := Int32.le_toInt a
  have h2 := Int32.toInt_lt a
  omega
theorem zl_I (a : Int64) : -9223372036854775808 ≤ a.toInt ∧ a.toInt ≤ 9223372036854775807 := by
  have h1 := Int64.le_toInt a
  have h2 := Int64.toInt_lt a
  omega
theorem zi_and_f (x y : Int) : -2147483648 ≤ zi_and x y ∧ zi_and x y ≤ 2147483647 := zi_I _
theorem zi_or_f (x y : Int) : -2147483648 ≤ zi_or x y ∧ zi_or x y ≤ 2147483647 := zi_I _
theorem zi_xor_f (x y : Int) : -2147483648 ≤ zi_xor x y ∧ zi_xor x y ≤ 2147483647 := zi_I _
theorem zi_shl_f (x y : Int) : -2147483648 ≤ zi_shl x y ∧ zi_shl x y ≤ 2147483647 := zi_I _
theorem zi_shr_f (x y : Int) : -2147483648 ≤ zi_shr x y ∧ zi_shr x y ≤ 2147483647 := zi_I _
theorem zi_ushr_f (x y : Int) : -2147483648 ≤ zi_ushr x y ∧ zi_ushr x y ≤ 2147483647 := zi_I _
theorem zl_xor_f (x y : Int) : -9223372036854775808 ≤ zl_xor x y ∧ zl_xor x y ≤ 9223372036854775807 := zl_I _
theorem zl_or_f (x y : Int) : -9223372036854775808 ≤ zl_or x y ∧ zl_or x y ≤ 9223372036854775807 := zl_I _
theorem zl_shl_f (x y : Int) : -9223372036854775808 ≤ zl_shl x y ∧ zl_shl x y ≤ 9223372036854775807 := zl_I _
theorem zl_ushr_f (x y : Int) : -9223372036854775808 ≤ zl_ushr x y ∧ zl_ushr x y ≤ 9223372036854775807 := zl_I _
theorem zi_max_f (x : Int) (hx : -2147483648 ≤ x ∧ x ≤ 2147483647) (y : Int) (hy : -2147483648 ≤ y ∧ y ≤ 2147483647) : (x < y ∧ zi_max x y = y) ∨ (y ≤ x ∧ zi_max x y = x) := by
  unfold zi_max
  rw [zwi hx, zwi hy]
  by_cases h : x < y
  · rw [if_pos h]; omega
  · rw [if_neg h]; omega
theorem zi_min_f (x : Int) (hx : -2147483648 ≤ x ∧ x ≤ 2147483647) (y : Int) (hy : -2147483648 ≤ y ∧ y ≤ 2147483647) : (y < x ∧ zi_min x y = y) ∨ (x ≤ y ∧ zi_min x y = x) := by
  unfold zi_min
  rw [zwi hx, zwi hy]
  by_cases h : y < x
  · rw [if_pos h]; omega
  · rw [if_neg h]; omega
theorem zi_abs_f (x : Int) (hx : -2147483648 ≤ x ∧ x ≤ 2147483647) : (x < 0 ∧ zi_abs x = -x) ∨ (0 ≤ x ∧ zi_abs x = x) := by
  unfold zi_abs
  rw [zwi hx]
  by_cases h : x < 0
  · rw [if_pos h]; omega
  · rw [if_neg h]; omega
theorem zi_shl1 {y : Int} (h : 0 ≤ y ∧ y ≤ 6) : 1 ≤ zi_shl 1 y ∧ zi_shl 1 y ≤ 64 := by
  have key : ∀ n : Fin 7, 1 ≤ zi_shl 1 (n.val : Int) ∧ zi_shl 1 (n.val : Int) ≤ 64 := by decide +kernel
  have h1 := key ⟨y.toNat, by omega⟩
  have h2 : ((y.toNat : Nat) : Int) = y := by omega
  dsimp only at h1
  rw [h2] at h1
  exact h1
theorem zu_mono {a f : Nat → Int} {i : Nat} {v : Int} (h : a = zu f i v) (hv : f i ≤ v) : ∀ j, f j ≤ a j := fun j => by
  rw [h]
  unfold zu
  by_cases q : j = i
  · rw [if_pos q, q]; exact hv
  · rw [if_neg q]; exact Int.le_refl _
theorem zu_back4 (h g1 g2 g3 g4 : Nat → Int) (i j : Nat) (e1 : g1 = zu h i (h i - 1)) (e2 : g2 = zu g1 j (g1 j + 1)) (e3 : g3 = zu g2 i (g2 i + 1)) (e4 : g4 = zu g3 j (g3 j - 1)) : g4 = h := by
  funext k
  by_cases c : i = j
  · subst c
    have a1 := zu_rd e1 i
    have a2 := zu_rd e2 i
    have a3 := zu_rd e3 i
    have b1 := zu_rd e1 k
    have b2 := zu_rd e2 k
    have b3 := zu_rd e3 k
    have b4 := zu_rd e4 k
    by_cases q : k = i
    · subst q; omega
    · omega
  · have a1 := zu_rd e1 i
    have a2 := zu_rd e2 i
    have c1 := zu_rd e1 j
    have c2 := zu_rd e2 j
    have c3 := zu_rd e3 j
    have b1 := zu_rd e1 k
    have b2 := zu_rd e2 k
    have b3 := zu_rd e3 k
    have b4 := zu_rd e4 k
    by_cases q : k = i
    · subst q; omega
    · by_cases q2 : k = j
      · subst q2; omega
      · omega
theorem zu_back (h : Nat → Int) (i j : Nat) : zu (zu (zu (zu h i (h i - 1)) j (zu h i (h i - 1) j + 1)) i (zu (zu h i (h i - 1)) j (zu h i (h i - 1) j + 1) i + 1)) j (zu (zu (zu h i (h i - 1)) j (zu h i (h i - 1) j + 1)) i (zu (zu h i (h i - 1)) j (zu h i (h i - 1) j + 1) i + 1) j - 1) = h :=
  zu_back4 h _ _ _ _ i j rfl rfl rfl rfl
theorem zgD {α : Type} (l : List α) (i : Nat) (d : α) (h : l.length ≤ i) : l.getD i d = d := by
  show (l[i]?).getD d = d
  rw [List.getElem?_eq_none h]
  rfl
theorem zk_r (i j : Nat) : 0 ≤ zk i j ∧ zk i j ≤ 99 := by
  have key : ∀ a : Fin 3, ∀ b : Fin 4, 0 ≤ (zcst.getD a.val []).getD b.val 0 ∧ (zcst.getD a.val []).getD b.val 0 ≤ 99 := by decide +kernel
  have kl : ∀ a : Fin 3, (zcst.getD a.val []).length = 4 := by decide +kernel
  unfold zk
  by_cases h : i < 3
  · by_cases g : j < 4
    · exact key ⟨i, h⟩ ⟨j, g⟩
    · have e : (zcst.getD i []).getD j 0 = 0 := by
        have := kl ⟨i, h⟩
        dsimp only at this
        exact zgD _ _ _ (by omega)
      rw [e]; decide
  · have e : zcst.getD i [] = [] := zgD _ _ _ (by have : zcst.length = 3 := rfl; omega)
    rw [e]
    exact ⟨by simp, by simp⟩
theorem zi_max_i (x y : Int) : -2147483648 ≤ zi_max x y ∧ zi_max x y ≤ 2147483647 := by
  have h1 := zi_r x
  have h2 := zi_r y
  unfold zi_max
  split <;> assumption
theorem zi_min_i (x y : Int) : -2147483648 ≤ zi_min x y ∧ zi_min x y ≤ 2147483647 := by
  have h1 := zi_r x
  have h2 := zi_r y
  unfold zi_min
  split <;> assumption
theorem zi_rem_f (x y : Int) : -2147483648 ≤ zi_rem x y ∧ zi_rem x y ≤ 2147483647 := zi_I _
theorem zi_div_f (x y : Int) : -2147483648 ≤ zi_div x y ∧ zi_div x y ≤ 2147483647 := zi_I _
theorem zl_div_f (x y : Int) : -9223372036854775808 ≤ zl_div x y ∧ zl_div x y ≤ 9223372036854775807 := zl_I _
theorem zl_rem_f (x y : Int) : -9223372036854775808 ≤ zl_rem x y ∧ zl_rem x y ≤ 9223372036854775807 := zl_I _
theorem zsl_f (w : Nat) : 0 ≤ zsl w ∧ zsl w ≤ 8 := by
  have key : ∀ a : Fin 14, 0 ≤ (zlen.getD a.val 0) ∧ (zlen.getD a.val 0) ≤ 8 := by decide +kernel
  unfold zsl
  by_cases h : w < 14
  · have := key ⟨w, h⟩
    dsimp only at this
    omega
  · rw [zgD _ _ _ (by have : zlen.length = 14 := rfl; omega)]
    decide
theorem zi_shr_k {x : Int} (k : Nat) (c : Int) (hk : k < 32) (hc : c = ((2 ^ k : Nat) : Int)) (hx : -2147483648 ≤ x ∧ x ≤ 2147483647) : zi_shr x (k : Int) = x / c := by
  have key : ∀ j : Fin 32, ((Int32.ofInt (j.val : Int) &&& 31).toBitVec.smod 32).toNat = j.val := by decide +kernel
  have k1 := key ⟨k, hk⟩
  dsimp only at k1
  have e1 : (Int32.ofInt x).toBitVec.toInt = x := zwi hx
  have e : zi_shr x (k : Int) = ((Int32.ofInt x).toBitVec.sshiftRight' ((Int32.ofInt (k : Int) &&& 31).toBitVec.smod 32)).toInt := rfl
  rw [e, BitVec.sshiftRight', BitVec.toInt_sshiftRight, k1, e1, Int.shiftRight_eq_div_pow, hc]
theorem zl_ushr50 (x : Int) : 0 ≤ zl_ushr x 50 ∧ zl_ushr x 50 ≤ 16383 := by
  have e : zl_ushr x 50 = ((Int64.ofInt x).toUInt64 >>> ((Int32.ofInt 50).toInt64.toUInt64 &&& Int64.toUInt64 63)).toBitVec.toInt := rfl
  have e2 : ((Int32.ofInt 50).toInt64.toUInt64 &&& Int64.toUInt64 63) = 50 := by decide +kernel
  have h : ((Int64.ofInt x).toUInt64 >>> (50 : UInt64)).toBitVec.toNat < 16384 := by
    show ((Int64.ofInt x).toUInt64 >>> (50 : UInt64)).toNat < 16384
    rw [UInt64.toNat_shiftRight]
    have h1 := (Int64.ofInt x).toUInt64.toNat_lt
    have h2 : (50 : UInt64).toNat % 64 = 50 := by decide
    rw [h2, Nat.shiftRight_eq_div_pow]
    omega
  rw [e, e2, BitVec.toInt_eq_toNat_cond]
  split <;> omega
theorem ztm (X : Int) {y : Int} (hy : 0 < y) : X - X.tdiv y * y = X.tmod y ∧ -y < X.tmod y ∧ X.tmod y < y := by
  have q4 : X.tmod y = X - y * X.tdiv y := Int.tmod_def _ _
  have q5 : (X.tmod y).natAbs = X.natAbs % y.natAbs := Int.natAbs_tmod ..
  have q6 : X.natAbs % y.natAbs < y.natAbs := Nat.mod_lt _ (by omega)
  rw [Int.mul_comm] at q4
  omega
theorem zl_rem_g (x : Int) {y : Int} (hy : 0 < y ∧ y ≤ 9223372036854775807) : -y < zl_rem x y ∧ zl_rem x y < y := by
  have e1 : (Int64.ofInt x).toInt = zl_w x := rfl
  have e2 : (Int64.ofInt y).toInt = y := zwl (by omega)
  have h := ztm (zl_w x) hy.1
  have r1 : zl_rem x y = (zl_w x).tmod y := by
    unfold zl_rem
    rw [Int64.toInt_sub, Int64.toInt_mul, Int64.toInt_div, e1, e2]
    rw [Int.bmod_mul_bmod, Int.sub_bmod_bmod, h.1]
    exact zbl (by omega)
  rw [r1]
  exact h.2
theorem zi_rem_g (x : Int) {y : Int} (hy : 0 < y ∧ y ≤ 2147483647) : -y < zi_rem x y ∧ zi_rem x y < y := by
  have e1 : (Int32.ofInt x).toInt = zi_w x := rfl
  have e2 : (Int32.ofInt y).toInt = y := zwi (by omega)
  have h := ztm (zi_w x) hy.1
  have r1 : zi_rem x y = (zi_w x).tmod y := by
    unfold zi_rem
    rw [Int32.toInt_sub, Int32.toInt_mul, Int32.toInt_div, e1, e2]
    rw [Int.bmod_mul_bmod, Int.sub_bmod_bmod, h.1]
    exact zbm (by omega)
  rw [r1]
  exact h.2
theorem zi_or6 {a b : Int} (ha : 0 ≤ a ∧ a ≤ 63) (hb : 0 ≤ b ∧ b ≤ 63) : 0 ≤ zi_or a b ∧ zi_or a b ≤ 63 := by
  have key : ∀ i j : Fin 64, 0 ≤ zi_or (i.val : Int) (j.val : Int) ∧ zi_or (i.val : Int) (j.val : Int) ≤ 63 := by decide +kernel
  have h := key ⟨a.toNat, by omega⟩ ⟨b.toNat, by omega⟩
  have e1 : ((a.toNat : Nat) : Int) = a := by omega
  have e2 : ((b.toNat : Nat) : Int) = b := by omega
  dsimp only at h
  rw [e1, e2] at h
  exact h
theorem zemod (a : Int) {w : Int} (h : 0 < w) : 0 ≤ a % w ∧ a % w < w := ⟨Int.emod_nonneg a (by omega), Int.emod_lt_of_pos a h⟩
theorem zk_d1 {α1 β : Type} {o : Option (α1)} {k : α1 → Option β} {Q : α1 → Prop} {P : β → Prop} (h : zok o Q) (hk : ∀ a1, Q (a1) → zok (k a1) P) : zok (zd1 o k) P := by
  obtain ⟨t, e, q⟩ := h
  unfold zd1
  rw [e]
  exact hk _ q
theorem zk_d2 {α1 α2 β : Type} {o : Option (α1 × α2)} {k : α1 → α2 → Option β} {Q : (α1 × α2) → Prop} {P : β → Prop} (h : zok o Q) (hk : ∀ a1 a2, Q (a1, a2) → zok (k a1 a2) P) : zok (zd2 o k) P := by
  obtain ⟨t, e, q⟩ := h
  unfold zd2
  rw [e]
  exact hk _ _ q
theorem zk_d3 {α1 α2 α3 β : Type} {o : Option (α1 × α2 × α3)} {k : α1 → α2 → α3 → Option β} {Q : (α1 × α2 × α3) → Prop} {P : β → Prop} (h : zok o Q) (hk : ∀ a1 a2 a3, Q (a1, a2, a3) → zok (k a1 a2 a3) P) : zok (zd3 o k) P := by
  obtain ⟨t, e, q⟩ := h
  unfold zd3
  rw [e]
  exact hk _ _ _ q
theorem zk_d4 {α1 α2 α3 α4 β : Type} {o : Option (α1 × α2 × α3 × α4)} {k : α1 → α2 → α3 → α4 → Option β} {Q : (α1 × α2 × α3 × α4) → Prop} {P : β → Prop} (h : zok o Q) (hk : ∀ a1 a2 a3 a4, Q (a1, a2, a3, a4) → zok (k a1 a2 a3 a4) P) : zok (zd4 o k) P := by
  obtain ⟨t, e, q⟩ := h
  unfold zd4
  rw [e]
  exact hk _ _ _ _ q
theorem zk_d5 {α1 α2 α3 α4 α5 β : Type} {o : Option (α1 × α2 × α3 × α4 × α5)} {k : α1 → α2 → α3 → α4 → α5 → Option β} {Q : (α1 × α2 × α3 × α4 × α5) → Prop} {P : β → Prop} (h : zok o Q) (hk : ∀ a1 a2 a3 a4 a5, Q (a1, a2, a3, a4, a5) → zok (k a1 a2 a3 a4 a5) P) : zok (zd5 o k) P := by
  obtain ⟨t, e, q⟩ := h
  unfold zd5
  rw [e]
  exact hk _ _ _ _ _ q
theorem zk_d6 {α1 α2 α3 α4 α5 α6 β : Type} {o : Option (α1 × α2 × α3 × α4 × α5 × α6)} {k : α1 → α2 → α3 → α4 → α5 → α6 → Option β} {Q : (α1 × α2 × α3 × α4 × α5 × α6) → Prop} {P : β → Prop} (h : zok o Q) (hk : ∀ a1 a2 a3 a4 a5 a6, Q (a1, a2, a3, a4, a5, a6) → zok (k a1 a2 a3 a4 a5 a6) P) : zok (zd6 o k) P := by
  obtain ⟨t, e, q⟩ := h
  unfold zd6
  rw [e]
  exact hk _ _ _ _ _ _ q
theorem zk_d7 {α1 α2 α3 α4 α5 α6 α7 β : Type} {o : Option (α1 × α2 × α3 × α4 × α5 × α6 × α7)} {k : α1 → α2 → α3 → α4 → α5 → α6 → α7 → Option β} {Q : (α1 × α2 × α3 × α4 × α5 × α6 × α7) → Prop} {P : β → Prop} (h : zok o Q) (hk : ∀ a1 a2 a3 a4 a5 a6 a7, Q (a1, a2, a3, a4, a5, a6, a7) → zok (k a1 a2 a3 a4 a5 a6 a7) P) : zok (zd7 o k) P := by
  obtain ⟨t, e, q⟩ := h
  unfold zd7
  rw [e]
  exact hk _ _ _ _ _ _ _ q
theorem zk_d8 {α1 α2 α3 α4 α5 α6 α7 α8 β : Type} {o : Option (α1 × α2 × α3 × α4 × α5 × α6 × α7 × α8)} {k : α1 → α2 → α3 → α4 → α5 → α6 → α7 → α8 → Option β} {Q : (α1 × α2 × α3 × α4 × α5 × α6 × α7 × α8) → Prop} {P : β → Prop} (h : zok o Q) (hk : ∀ a1 a2 a3 a4 a5 a6 a7 a8, Q (a1, a2, a3, a4, a5, a6, a7, a8) → zok (k a1 a2 a3 a4 a5 a6 a7 a8) P) : zok (zd8 o k) P := by
  obtain ⟨t, e, q⟩ := h
  unfold zd8
  rw [e]
  exact hk _ _ _ _ _ _ _ _ q
theorem zk_d9 {α1 α2 α3 α4 α5 α6 α7 α8 α9 β : Type} {o : Option (α1 × α2 × α3 × α4 × α5 × α6 × α7 × α8 × α9)} {k : α1 → α2 → α3 → α4 → α5 → α6 → α7 → α8 → α9 → Option β} {Q : (α1 × α2 × α3 × α4 × α5 × α6 × α7 × α8 × α9) → Prop} {P : β → Prop} (h : zok o Q) (hk : ∀ a1 a2 a3 a4 a5 a6 a7 a8 a9, Q (a1, a2, a3, a4, a5, a6, a7, a8, a9) → zok (k a1 a2 a3 a4 a5 a6 a7 a8 a9) P) : zok (zd9 o k) P := by
  obtain ⟨t, e, q⟩ := h
  unfold zd9
  rw [e]
  exact hk _ _ _ _ _ _ _ _ _ q
theorem zk_d10 {α1 α2 α3 α4 α5 α6 α7 α8 α9 α10 β : Type} {o : Option (α1 × α2 × α3 × α4 × α5 × α6 × α7 × α8 × α9 × α10)} {k : α1 → α2 → α3 → α4 → α5 → α6 → α7 → α8 → α9 → α10 → Option β} {Q : (α1 × α2 × α3 × α4 × α5 × α6 × α7 × α8 × α9 × α10) → Prop} {P : β → Prop} (h : zok o Q) (hk : ∀ a1 a2 a3 a4 a5 a6 a7 a8 a9 a10, Q (a1, a2, a3, a4, a5, a6, a7, a8, a9, a10) → zok (k a1 a2 a3 a4 a5 a6 a7 a8 a9 a10) P) : zok (zd10 o k) P := by
  obtain ⟨t, e, q⟩ := h
  unfold zd10
  rw [e]
  exact hk _ _ _ _ _ _ _ _ _ _ q
theorem zk_d11 {α1 α2 α3 α4 α5 α6 α7 α8 α9 α10 α11 β : Type} {o : Option (α1 × α2 × α3 × α4 × α5 × α6 × α7 × α8 × α9 × α10 × α11)} {k : α1 → α2 → α3 → α4 → α5 → α6 → α7 → α8 → α9 → α10 → α11 → Option β} {Q : (α1 × α2 × α3 × α4 × α5 × α6 × α7 × α8 × α9 × α10 × α11) → Prop} {P : β → Prop} (h : zok o Q) (hk : ∀ a1 a2 a3 a4 a5 a6 a7 a8 a9 a10 a11, Q (a1, a2, a3, a4, a5, a6, a7, a8, a9, a10, a11) → zok (k a1 a2 a3 a4 a5 a6 a7 a8 a9 a10 a11) P) : zok (zd11 o k) P := by
  obtain ⟨t, e, q⟩ := h
  unfold zd11
  rw [e]
  exact hk _ _ _ _ _ _ _ _ _ _ _ q
theorem zk_d12 {α1 α2 α3 α4 α5 α6 α7 α8 α9 α10 α11 α12 β : Type} {o : Option (α1 × α2 × α3 × α4 × α5 × α6 × α7 × α8 × α9 × α10 × α11 × α12)} {k : α1 → α2 → α3 → α4 → α5 → α6 → α7 → α8 → α9 → α10 → α11 → α12 → Option β} {Q : (α1 × α2 × α3 × α4 × α5 × α6 × α7 × α8 × α9 × α10 × α11 × α12) → Prop} {P : β → Prop} (h : zok o Q) (hk : ∀ a1 a2 a3 a4 a5 a6 a7 a8 a9 a10 a11 a12, Q (a1, a2, a3, a4, a5, a6, a7, a8, a9, a10, a11, a12) → zok (k a1 a2 a3 a4 a5 a6 a7 a8 a9 a10 a11 a12) P) : zok (zd12 o k) P := by
  obtain ⟨t, e, q⟩ := h
  unfold zd12
  rw [e]
  exact hk _ _ _ _ _ _ _ _ _ _ _ _ q
theorem zk_d13 {α1 α2 α3 α4 α5 α6 α7 α8 α9 α10 α11 α12 α13 β : Type} {o : Option (α1 × α2 × α3 × α4 × α5 × α6 × α7 × α8 × α9 × α10 × α11 × α12 × α13)} {k : α1 → α2 → α3 → α4 → α5 → α6 → α7 → α8 → α9 → α10 → α11 → α12 → α13 → Option β} {Q : (α1 × α2 × α3 × α4 × α5 × α6 × α7 × α8 × α9 × α10 × α11 × α12 × α13) → Prop} {P : β → Prop} (h : zok o Q) (hk : ∀ a1 a2 a3 a4 a5 a6 a7 a8 a9 a10 a11 a12 a13, Q (a1, a2, a3, a4, a5, a6, a7, a8, a9, a10, a11, a12, a13) → zok (k a1 a2 a3 a4 a5 a6 a7 a8 a9 a10 a11 a12 a13) P) : zok (zd13 o k) P := by
  obtain ⟨t, e, q⟩ := h
  unfold zd13
  rw [e]
  exact hk _ _ _ _ _ _ _ _ _ _ _ _ _ q
theorem zk_d14 {α1 α2 α3 α4 α5 α6 α7 α8 α9 α10 α11 α12 α13 α14 β : Type} {o : Option (α1 × α2 × α3 × α4 × α5 × α6 × α7 × α8 × α9 × α10 × α11 × α12 × α13 × α14)} {k : α1 → α2 → α3 → α4 → α5 → α6 → α7 → α8 → α9 → α10 → α11 → α12 → α13 → α14 → Option β} {Q : (α1 × α2 × α3 × α4 × α5 × α6 × α7 × α8 × α9 × α10 × α11 × α12 × α13 × α14) → Prop} {P : β → Prop} (h : zok o Q) (hk : ∀ a1 a2 a3 a4 a5 a6 a7 a8 a9 a10 a11 a12 a13 a14, Q (a1, a2, a3, a4, a5, a6, a7, a8, a9, a10, a11, a12, a13, a14) → zok (k a1 a2 a3 a4 a5 a6 a7 a8 a9 a10 a11 a12 a13 a14) P) : zok (zd14 o k) P := by
  obtain ⟨t, e, q⟩ := h
  unfold zd14
  rw [e]
  exact hk _ _ _ _ _ _ _ _ _ _ _ _ _ _ q
theorem zk_d15 {α1 α2 α3 α4 α5 α6 α7 α8 α9 α10 α11 α12 α13 α14 α15 β : Type} {o : Option (α1 × α2 × α3 × α4 × α5 × α6 × α7 × α8 × α9 × α10 × α11 × α12 × α13 × α14 × α15)} {k : α1 → α2 → α3 → α4 → α5 → α6 → α7 → α8 → α9 → α10 → α11 → α12 → α13 → α14 → α15 → Option β} {Q : (α1 × α2 × α3 × α4 × α5 × α6 × α7 × α8 × α9 × α10 × α11 × α12 × α13 × α14 × α15) → Prop} {P : β → Prop} (h : zok o Q) (hk : ∀ a1 a2 a3 a4 a5 a6 a7 a8 a9 a10 a11 a12 a13 a14 a15, Q (a1, a2, a3, a4, a5, a6, a7, a8, a9, a10, a11, a12, a13, a14, a15) → zok (k a1 a2 a3 a4 a5 a6 a7 a8 a9 a10 a11 a12 a13 a14 a15) P) : zok (zd15 o k) P := by
  obtain ⟨t, e, q⟩ := h
  unfold zd15
  rw [e]
  exact hk _ _ _ _ _ _ _ _ _ _ _ _ _ _ _ q
theorem zk_d16 {α1 α2 α3 α4 α5 α6 α7 α8 α9 α10 α11 α12 α13 α14 α15 α16 β : Type} {o : Option (α1 × α2 × α3 × α4 × α5 × α6 × α7 × α8 × α9 × α10 × α11 × α12 × α13 × α14 × α15 × α16)} {k : α1 → α2 → α3 → α4 → α5 → α6 → α7 → α8 → α9 → α10 → α11 → α12 → α13 → α14 → α15 → α16 → Option β} {Q : (α1 × α2 × α3 × α4 × α5 × α6 × α7 × α8 × α9 × α10 × α11 × α12 × α13 × α14 × α15 × α16) → Prop} {P : β → Prop} (h : zok o Q) (hk : ∀ a1 a2 a3 a4 a5 a6 a7 a8 a9 a10 a11 a12 a13 a14 a15 a16, Q (a1, a2, a3, a4, a5, a6, a7, a8, a9, a10, a11, a12, a13, a14, a15, a16) → zok (k a1 a2 a3 a4 a5 a6 a7 a8 a9 a10 a11 a12 a13 a14 a15 a16) P) : zok (zd16 o k) P := by
  obtain ⟨t, e, q⟩ := h
  unfold zd16
  rw [e]
  exact hk _ _ _ _ _ _ _ _ _ _ _ _ _ _ _ _ q
theorem zk_d17 {α1 α2 α3 α4 α5 α6 α7 α8 α9 α10 α11 α12 α13 α14 α15 α16 α17 β : Type} {o : Option (α1 × α2 × α3 × α4 × α5 × α6 × α7 × α8 × α9 × α10 × α11 × α12 × α13 × α14 × α15 × α16 × α17)} {k : α1 → α2 → α3 → α4 → α5 → α6 → α7 → α8 → α9 → α10 → α11 → α12 → α13 → α14 → α15 → α16 → α17 → Option β} {Q : (α1 × α2 × α3 × α4 × α5 × α6 × α7 × α8 × α9 × α10 × α11 × α12 × α13 × α14 × α15 × α16 × α17) → Prop} {P : β → Prop} (h : zok o Q) (hk : ∀ a1 a2 a3 a4 a5 a6 a7 a8 a9 a10 a11 a12 a13 a14 a15 a16 a17, Q (a1, a2, a3, a4, a5, a6, a7, a8, a9, a10, a11, a12, a13, a14, a15, a16, a17) → zok (k a1 a2 a3 a4 a5 a6 a7 a8 a9 a10 a11 a12 a13 a14 a15 a16 a17) P) : zok (zd17 o k) P := by
  obtain ⟨t, e, q⟩ := h
  unfold zd17
  rw [e]
  exact hk _ _ _ _ _ _ _ _ _ _ _ _ _ _ _ _ _ q
theorem zk_d18 {α1 α2 α3 α4 α5 α6 α7 α8 α9 α10 α11 α12 α13 α14 α15 α16 α17 α18 β : Type} {o : Option (α1 × α2 × α3 × α4 × α5 × α6 × α7 × α8 × α9 × α10 × α11 × α12 × α13 × α14 × α15 × α16 × α17 × α18)} {k : α1 → α2 → α3 → α4 → α5 → α6 → α7 → α8 → α9 → α10 → α11 → α12 → α13 → α14 → α15 → α16 → α17 → α18 → Option β} {Q : (α1 × α2 × α3 × α4 × α5 × α6 × α7 × α8 × α9 × α10 × α11 × α12 × α13 × α14 × α15 × α16 × α17 × α18) → Prop} {P : β → Prop} (h : zok o Q) (hk : ∀ a1 a2 a3 a4 a5 a6 a7 a8 a9 a10 a11 a12 a13 a14 a15 a16 a17 a18, Q (a1, a2, a3, a4, a5, a6, a7, a8, a9, a10, a11, a12, a13, a14, a15, a16, a17, a18) → zok (k a1 a2 a3 a4 a5 a6 a7 a8 a9 a10 a11 a12 a13 a14 a15 a16 a17 a18) P) : zok (zd18 o k) P := by
  obtain ⟨t, e, q⟩ := h
  unfold zd18
  rw [e]
  exact hk _ _ _ _ _ _ _ _ _ _ _ _ _ _ _ _ _ _ q
theorem zk_d19 {α1 α2 α3 α4 α5 α6 α7 α8 α9 α10 α11 α12 α13 α14 α15 α16 α17 α18 α19 β : Type} {o : Option (α1 × α2 × α3 × α4 × α5 × α6 × α7 × α8 × α9 × α10 × α11 × α12 × α13 × α14 × α15 × α16 × α17 × α18 × α19)} {k : α1 → α2 → α3 → α4 → α5 → α6 → α7 → α8 → α9 → α10 → α11 → α12 → α13 → α14 → α15 → α16 → α17 → α18 → α19 → Option β} {Q : (α1 × α2 × α3 × α4 × α5 × α6 × α7 × α8 × α9 × α10 × α11 × α12 × α13 × α14 × α15 × α16 × α17 × α18 × α19) → Prop} {P : β → Prop} (h : zok o Q) (hk : ∀ a1 a2 a3 a4 a5 a6 a7 a8 a9 a10 a11 a12 a13 a14 a15 a16 a17 a18 a19, Q (a1, a2, a3, a4, a5, a6, a7, a8, a9, a10, a11, a12, a13, a14, a15, a16, a17, a18, a19) → zok (k a1 a2 a3 a4 a5 a6 a7 a8 a9 a10 a11 a12 a13 a14 a15 a16 a17 a18 a19) P) : zok (zd19 o k) P := by
  obtain ⟨t, e, q⟩ := h
  unfold zd19
  rw [e]
  exact hk _ _ _ _ _ _ _ _ _ _ _ _ _ _ _ _ _ _ _ q
theorem zk_d20 {α1 α2 α3 α4 α5 α6 α7 α8 α9 α10 α11 α12 α13 α14 α15 α16 α17 α18 α19 α20 β : Type} {o : Option (α1 × α2 × α3 × α4 × α5 × α6 × α7 × α8 × α9 × α10 × α11 × α12 × α13 × α14 × α15 × α16 × α17 × α18 × α19 × α20)} {k : α1 → α2 → α3 → α4 → α5 → α6 → α7 → α8 → α9 → α10 → α11 → α12 → α13 → α14 → α15 → α16 → α17 → α18 → α19 → α20 → Option β} {Q : (α1 × α2 × α3 × α4 × α5 × α6 × α7 × α8 × α9 × α10 × α11 × α12 × α13 × α14 × α15 × α16 × α17 × α18 × α19 × α20) → Prop} {P : β → Prop} (h : zok o Q) (hk : ∀ a1 a2 a3 a4 a5 a6 a7 a8 a9 a10 a11 a12 a13 a14 a15 a16 a17 a18 a19 a20, Q (a1, a2, a3, a4, a5, a6, a7, a8, a9, a10, a11, a12, a13, a14, a15, a16, a17, a18, a19, a20) → zok (k a1 a2 a3 a4 a5 a6 a7 a8 a9 a10 a11 a12 a13 a14 a15 a16 a17 a18 a19 a20) P) : zok (zd20 o k) P := by
  obtain ⟨t, e, q⟩ := h
  unfold zd20
  rw [e]
  exact hk _ _ _ _ _ _ _ _ _ _ _ _ _ _ _ _ _ _ _ _ q
theorem zk_d21 {α1 α2 α3 α4 α5 α6 α7 α8 α9 α10 α11 α12 α13 α14 α15 α16 α17 α18 α19 α20 α21 β : Type} {o : Option (α1 × α2 × α3 × α4 × α5 × α6 × α7 × α8 × α9 × α10 × α11 × α12 × α13 × α14 × α15 × α16 × α17 × α18 × α19 × α20 × α21)} {k : α1 → α2 → α3 → α4 → α5 → α6 → α7 → α8 → α9 → α10 → α11 → α12 → α13 → α14 → α15 → α16 → α17 → α18 → α19 → α20 → α21 → Option β} {Q : (α1 × α2 × α3 × α4 × α5 × α6 × α7 × α8 × α9 × α10 × α11 × α12 × α13 × α14 × α15 × α16 × α17 × α18 × α19 × α20 × α21) → Prop} {P : β → Prop} (h : zok o Q) (hk : ∀ a1 a2 a3 a4 a5 a6 a7 a8 a9 a10 a11 a12 a13 a14 a15 a16 a17 a18 a19 a20 a21, Q (a1, a2, a3, a4, a5, a6, a7, a8, a9, a10, a11, a12, a13, a14, a15, a16, a17, a18, a19, a20, a21) → zok (k a1 a2 a3 a4 a5 a6 a7 a8 a9 a10 a11 a12 a13 a14 a15 a16 a17 a18 a19 a20 a21) P) : zok (zd21 o k) P := by
  obtain ⟨t, e, q⟩ := h
  unfold zd21
  rw [e]
  exact hk _ _ _ _ _ _ _ _ _ _ _ _ _ _ _ _ _ _ _ _ _ q
theorem zk_d22 {α1 α2 α3 α4 α5 α6 α7 α8 α9 α10 α11 α12 α13 α14 α15 α16 α17 α18 α19 α20 α21 α22 β : Type} {o : Option (α1 × α2 × α3 × α4 × α5 × α6 × α7 × α8 × α9 × α10 × α11 × α12 × α13 × α14 × α15 × α16 × α17 × α18 × α19 × α20 × α21 × α22)} {k : α1 → α2 → α3 → α4 → α5 → α6 → α7 → α8 → α9 → α10 → α11 → α12 → α13 → α14 → α15 → α16 → α17 → α18 → α19 → α20 → α21 → α22 → Option β} {Q : (α1 × α2 × α3 × α4 × α5 × α6 × α7 × α8 × α9 × α10 × α11 × α12 × α13 × α14 × α15 × α16 × α17 × α18 × α19 × α20 × α21 × α22) → Prop} {P : β → Prop} (h : zok o Q) (hk : ∀ a1 a2 a3 a4 a5 a6 a7 a8 a9 a10 a11 a12 a13 a14 a15 a16 a17 a18 a19 a20 a21 a22, Q (a1, a2, a3, a4, a5, a6, a7, a8, a9, a10, a11, a12, a13, a14, a15, a16, a17, a18, a19, a20, a21, a22) → zok (k a1 a2 a3 a4 a5 a6 a7 a8 a9 a10 a11 a12 a13 a14 a15 a16 a17 a18 a19 a20 a21 a22) P) : zok (zd22 o k) P := by
  obtain ⟨t, e, q⟩ := h
  unfold zd22
  rw [e]
  exact hk _ _ _ _ _ _ _ _ _ _ _ _ _ _ _ _ _ _ _ _ _ _ q
theorem zk_d23 {α1 α2 α3 α4 α5 α6 α7 α8 α9 α10 α11 α12 α13 α14 α15 α16 α17 α18 α19 α20 α21 α22 α23 β : Type} {o : Option (α1 × α2 × α3 × α4 × α5 × α6 × α7 × α8 × α9 × α10 × α11 × α12 × α13 × α14 × α15 × α16 × α17 × α18 × α19 × α20 × α21 × α22 × α23)} {k : α1 → α2 → α3 → α4 → α5 → α6 → α7 → α8 → α9 → α10 → α11 → α12 → α13 → α14 → α15 → α16 → α17 → α18 → α19 → α20 → α21 → α22 → α23 → Option β} {Q : (α1 × α2 × α3 × α4 × α5 × α6 × α7 × α8 × α9 × α10 × α11 × α12 × α13 × α14 × α15 × α16 × α17 × α18 × α19 × α20 × α21 × α22 × α23) → Prop} {P : β → Prop} (h : zok o Q) (hk : ∀ a1 a2 a3 a4 a5 a6 a7 a8 a9 a10 a11 a12 a13 a14 a15 a16 a17 a18 a19 a20 a21 a22 a23, Q (a1, a2, a3, a4, a5, a6, a7, a8, a9, a10, a11, a12, a13, a14, a15, a16, a17, a18, a19, a20, a21, a22, a23) → zok (k a1 a2 a3 a4 a5 a6 a7 a8 a9 a10 a11 a12 a13 a14 a15 a16 a17 a18 a19 a20 a21 a22 a23) P) : zok (zd23 o k) P := by
  obtain ⟨t, e, q⟩ := h
  unfold zd23
  rw [e]
  exact hk _ _ _ _ _ _ _ _ _ _ _ _ _ _ _ _ _ _ _ _ _ _ _ q
theorem zk_d24 {α1 α2 α3 α4 α5 α6 α7 α8 α9 α10 α11 α12 α13 α14 α15 α16 α17 α18 α19 α20 α21 α22 α23 α24 β : Type} {o : Option (α1 × α2 × α3 × α4 × α5 × α6 × α7 × α8 × α9 × α10 × α11 × α12 × α13 × α14 × α15 × α16 × α17 × α18 × α19 × α20 × α21 × α22 × α23 × α24)} {k : α1 → α2 → α3 → α4 → α5 → α6 → α7 → α8 → α9 → α10 → α11 → α12 → α13 → α14 → α15 → α16 → α17 → α18 → α19 → α20 → α21 → α22 → α23 → α24 → Option β} {Q : (α1 × α2 × α3 × α4 × α5 × α6 × α7 × α8 × α9 × α10 × α11 × α12 × α13 × α14 × α15 × α16 × α17 × α18 × α19 × α20 × α21 × α22 × α23 × α24) → Prop} {P : β → Prop} (h : zok o Q) (hk : ∀ a1 a2 a3 a4 a5 a6 a7 a8 a9 a10 a11 a12 a13 a14 a15 a16 a17 a18 a19 a20 a21 a22 a23 a24, Q (a1, a2, a3, a4, a5, a6, a7, a8, a9, a10, a11, a12, a13, a14, a15, a16, a17, a18, a19, a20, a21, a22, a23, a24) → zok (k a1 a2 a3 a4 a5 a6 a7 a8 a9 a10 a11 a12 a13 a14 a15 a16 a17 a18 a19 a20 a21 a22 a23 a24) P) : zok (zd24 o k) P := by
  obtain ⟨t, e, q⟩ := h
  unfold zd24
  rw [e]
  exact hk _ _ _ _ _ _ _ _ _ _ _ _ _ _ _ _ _ _ _ _ _ _ _ _ q
theorem zk_d25 {α1 α2 α3 α4 α5 α6 α7 α8 α9 α10 α11 α12 α13 α14 α15 α16 α17 α18 α19 α20 α21 α22 α23 α24 α25 β : Type} {o : Option (α1 × α2 × α3 × α4 × α5 × α6 × α7 × α8 × α9 × α10 × α11 × α12 × α13 × α14 × α15 × α16 × α17 × α18 × α19 × α20 × α21 × α22 × α23 × α24 × α25)} {k : α1 → α2 → α3 → α4 → α5 → α6 → α7 → α8 → α9 → α10 → α11 → α12 → α13 → α14 → α15 → α16 → α17 → α18 → α19 → α20 → α21 → α22 → α23 → α24 → α25 → Option β} {Q : (α1 × α2 × α3 × α4 × α5 × α6 × α7 × α8 × α9 × α10 × α11 × α12 × α13 × α14 × α15 × α16 × α17 × α18 × α19 × α20 × α21 × α22 × α23 × α24 × α25) → Prop} {P : β → Prop} (h : zok o Q) (hk : ∀ a1 a2 a3 a4 a5 a6 a7 a8 a9 a10 a11 a12 a13 a14 a15 a16 a17 a18 a19 a20 a21 a22 a23 a24 a25, Q (a1, a2, a3, a4, a5, a6, a7, a8, a9, a10, a11, a12, a13, a14, a15, a16, a17, a18, a19, a20, a21, a22, a23, a24, a25) → zok (k a1 a2 a3 a4 a5 a6 a7 a8 a9 a10 a11 a12 a13 a14 a15 a16 a17 a18 a19 a20 a21 a22 a23 a24 a25) P) : zok (zd25 o k) P := by
  obtain ⟨t, e, q⟩ := h
  unfold zd25
  rw [e]
  exact hk _ _ _ _ _ _ _ _ _ _ _ _ _ _ _ _ _ _ _ _ _ _ _ _ _ q
theorem zk_d26 {α1 α2 α3 α4 α5 α6 α7 α8 α9 α10 α11 α12 α13 α14 α15 α16 α17 α18 α19 α20 α21 α22 α23 α24 α25 α26 β : Type} {o : Option (α1 × α2 × α3 × α4 × α5 × α6 × α7 × α8 × α9 × α10 × α11 × α12 × α13 × α14 × α15 × α16 × α17 × α18 × α19 × α20 × α21 × α22 × α23 × α24 × α25 × α26)} {k : α1 → α2 → α3 → α4 → α5 → α6 → α7 → α8 → α9 → α10 → α11 → α12 → α13 → α14 → α15 → α16 → α17 → α18 → α19 → α20 → α21 → α22 → α23 → α24 → α25 → α26 → Option β} {Q : (α1 × α2 × α3 × α4 × α5 × α6 × α7 × α8 × α9 × α10 × α11 × α12 × α13 × α14 × α15 × α16 × α17 × α18 × α19 × α20 × α21 × α22 × α23 × α24 × α25 × α26) → Prop} {P : β → Prop} (h : zok o Q) (hk : ∀ a1 a2 a3 a4 a5 a6 a7 a8 a9 a10 a11 a12 a13 a14 a15 a16 a17 a18 a19 a20 a21 a22 a23 a24 a25 a26, Q (a1, a2, a3, a4, a5, a6, a7, a8, a9, a10, a11, a12, a13, a14, a15, a16, a17, a18, a19, a20, a21, a22, a23, a24, a25, a26) → zok (k a1 a2 a3 a4 a5 a6 a7 a8 a9 a10 a11 a12 a13 a14 a15 a16 a17 a18 a19 a20 a21 a22 a23 a24 a25 a26) P) : zok (zd26 o k) P := by
  obtain ⟨t, e, q⟩ := h
  unfold zd26
  rw [e]
  exact hk _ _ _ _ _ _ _ _ _ _ _ _ _ _ _ _ _ _ _ _ _ _ _ _ _ _ q
theorem zk_d27 {α1 α2 α3 α4 α5 α6 α7 α8 α9 α10 α11 α12 α13 α14 α15 α16 α17 α18 α19 α20 α21 α22 α23 α24 α25 α26 α27 β : Type} {o : Option (α1 × α2 × α3 × α4 × α5 × α6 × α7 × α8 × α9 × α10 × α11 × α12 × α13 × α14 × α15 × α16 × α17 × α18 × α19 × α20 × α21 × α22 × α23 × α24 × α25 × α26 × α27)} {k : α1 → α2 → α3 → α4 → α5 → α6 → α7 → α8 → α9 → α10 → α11 → α12 → α13 → α14 → α15 → α16 → α17 → α18 → α19 → α20 → α21 → α22 → α23 → α24 → α25 → α26 → α27 → Option β} {Q : (α1 × α2 × α3 × α4 × α5 × α6 × α7 × α8 × α9 × α10 × α11 × α12 × α13 × α14 × α15 × α16 × α17 × α18 × α19 × α20 × α21 × α22 × α23 × α24 × α25 × α26 × α27) → Prop} {P : β → Prop} (h : zok o Q) (hk : ∀ a1 a2 a3 a4 a5 a6 a7 a8 a9 a10 a11 a12 a13 a14 a15 a16 a17 a18 a19 a20 a21 a22 a23 a24 a25 a26 a27, Q (a1, a2, a3, a4, a5, a6, a7, a8, a9, a10, a11, a12, a13, a14, a15, a16, a17, a18, a19, a20, a21, a22, a23, a24, a25, a26, a27) → zok (k a1 a2 a3 a4 a5 a6 a7 a8 a9 a10 a11 a12 a13 a14 a15 a16 a17 a18 a19 a20 a21 a22 a23 a24 a25 a26 a27) P) : zok (zd27 o k) P := by
  obtain ⟨t, e, q⟩ := h
  unfold zd27
  rw [e]
  exact hk _ _ _ _ _ _ _ _ _ _ _ _ _ _ _ _ _ _ _ _ _ _ _ _ _ _ _ q
theorem zk_d28 {α1 α2 α3 α4 α5 α6 α7 α8 α9 α10 α11 α12 α13 α14 α15 α16 α17 α18 α19 α20 α21 α22 α23 α24 α25 α26 α27 α28 β : Type} {o : Option (α1 × α2 × α3 × α4 × α5 × α6 × α7 × α8 × α9 × α10 × α11 × α12 × α13 × α14 × α15 × α16 × α17 × α18 × α19 × α20 × α21 × α22 × α23 × α24 × α25 × α26 × α27 × α28)} {k : α1 → α2 → α3 → α4 → α5 → α6 → α7 → α8 → α9 → α10 → α11 → α12 → α13 → α14 → α15 → α16 → α17 → α18 → α19 → α20 → α21 → α22 → α23 → α24 → α25 → α26 → α27 → α28 → Option β} {Q : (α1 × α2 × α3 × α4 × α5 × α6 × α7 × α8 × α9 × α10 × α11 × α12 × α13 × α14 × α15 × α16 × α17 × α18 × α19 × α20 × α21 × α22 × α23 × α24 × α25 × α26 × α27 × α28) → Prop} {P : β → Prop} (h : zok o Q) (hk : ∀ a1 a2 a3 a4 a5 a6 a7 a8 a9 a10 a11 a12 a13 a14 a15 a16 a17 a18 a19 a20 a21 a22 a23 a24 a25 a26 a27 a28, Q (a1, a2, a3, a4, a5, a6, a7, a8, a9, a10, a11, a12, a13, a14, a15, a16, a17, a18, a19, a20, a21, a22, a23, a24, a25, a26, a27, a28) → zok (k a1 a2 a3 a4 a5 a6 a7 a8 a9 a10 a11 a12 a13 a14 a15 a16 a17 a18 a19 a20 a21 a22 a23 a24 a25 a26 a27 a28) P) : zok (zd28 o k) P := by
  obtain ⟨t, e, q⟩ := h
  unfold zd28
  rw [e]
  exact hk _ _ _ _ _ _ _ _ _ _ _ _ _ _ _ _ _ _ _ _ _ _ _ _ _ _ _ _ q
theorem zk_d29 {α1 α2 α3 α4 α5 α6 α7 α8 α9 α10 α11 α12 α13 α14 α15 α16 α17 α18 α19 α20 α21 α22 α23 α24 α25 α26 α27 α28 α29 β : Type} {o : Option (α1 × α2 × α3 × α4 × α5 × α6 × α7 × α8 × α9 × α10 × α11 × α12 × α13 × α14 × α15 × α16 × α17 × α18 × α19 × α20 × α21 × α22 × α23 × α24 × α25 × α26 × α27 × α28 × α29)} {k : α1 → α2 → α3 → α4 → α5 → α6 → α7 → α8 → α9 → α10 → α11 → α12 → α13 → α14 → α15 → α16 → α17 → α18 → α19 → α20 → α21 → α22 → α23 → α24 → α25 → α26 → α27 → α28 → α29 → Option β} {Q : (α1 × α2 × α3 × α4 × α5 × α6 × α7 × α8 × α9 × α10 × α11 × α12 × α13 × α14 × α15 × α16 × α17 × α18 × α19 × α20 × α21 × α22 × α23 × α24 × α25 × α26 × α27 × α28 × α29) → Prop} {P : β → Prop} (h : zok o Q) (hk : ∀ a1 a2 a3 a4 a5 a6 a7 a8 a9 a10 a11 a12 a13 a14 a15 a16 a17 a18 a19 a20 a21 a22 a23 a24 a25 a26 a27 a28 a29, Q (a1, a2, a3, a4, a5, a6, a7, a8, a9, a10, a11, a12, a13, a14, a15, a16, a17, a18, a19, a20, a21, a22, a23, a24, a25, a26, a27, a28, a29) → zok (k a1 a2 a3 a4 a5 a6 a7 a8 a9 a10 a11 a12 a13 a14 a15 a16 a17 a18 a19 a20 a21 a22 a23 a24 a25 a26 a27 a28 a29) P) : zok (zd29 o k) P := by
  obtain ⟨t, e, q⟩ := h
  unfold zd29
  rw [e]
  exact hk _ _ _ _ _ _ _ _ _ _ _ _ _ _ _ _ _ _ _ _ _ _ _ _ _ _ _ _ _ q
theorem zk_d30 {α1 α2 α3 α4 α5 α6 α7 α8 α9 α10 α11 α12 α13 α14 α15 α16 α17 α18 α19 α20 α21 α22 α23 α24 α25 α26 α27 α28 α29 α30 β : Type} {o : Option (α1 × α2 × α3 × α4 × α5 × α6 × α7 × α8 × α9 × α10 × α11 × α12 × α13 × α14 × α15 × α16 × α17 × α18 × α19 × α20 × α21 × α22 × α23 × α24 × α25 × α26 × α27 × α28 × α29 × α30)} {k : α1 → α2 → α3 → α4 → α5 → α6 → α7 → α8 → α9 → α10 → α11 → α12 → α13 → α14 → α15 → α16 → α17 → α18 → α19 → α20 → α21 → α22 → α23 → α24 → α25 → α26 → α27 → α28 → α29 → α30 → Option β} {Q : (α1 × α2 × α3 × α4 × α5 × α6 × α7 × α8 × α9 × α10 × α11 × α12 × α13 × α14 × α15 × α16 × α17 × α18 × α19 × α20 × α21 × α22 × α23 × α24 × α25 × α26 × α27 × α28 × α29 × α30) → Prop} {P : β → Prop} (h : zok o Q) (hk : ∀ a1 a2 a3 a4 a5 a6 a7 a8 a9 a10 a11 a12 a13 a14 a15 a16 a17 a18 a19 a20 a21 a22 a23 a24 a25 a26 a27 a28 a29 a30, Q (a1, a2, a3, a4, a5, a6, a7, a8, a9, a10, a11, a12, a13, a14, a15, a16, a17, a18, a19, a20, a21, a22, a23, a24, a25, a26, a27, a28, a29, a30) → zok (k a1 a2 a3 a4 a5 a6 a7 a8 a9 a10 a11 a12 a13 a14 a15 a16 a17 a18 a19 a20 a21 a22 a23 a24 a25 a26 a27 a28 a29 a30) P) : zok (zd30 o k) P := by
  obtain ⟨t, e, q⟩ := h
  unfold zd30
  rw [e]
  exact hk _ _ _ _ _ _ _ _ _ _ _ _ _ _ _ _ _ _ _ _ _ _ _ _ _ _ _ _ _ _ q
theorem zk_d31 {α1 α2 α3 α4 α5 α6 α7 α8 α9 α10 α11 α12 α13 α14 α15 α16 α17 α18 α19 α20 α21 α22 α23 α24 α25 α26 α27 α28 α29 α30 α31 β : Type} {o : Option (α1 × α2 × α3 × α4 × α5 × α6 × α7 × α8 × α9 × α10 × α11 × α12 × α13 × α14 × α15 × α16 × α17 × α18 × α19 × α20 × α21 × α22 × α23 × α24 × α25 × α26 × α27 × α28 × α29 × α30 × α31)} {k : α1 → α2 → α3 → α4 → α5 → α6 → α7 → α8 → α9 → α10 → α11 → α12 → α13 → α14 → α15 → α16 → α17 → α18 → α19 → α20 → α21 → α22 → α23 → α24 → α25 → α26 → α27 → α28 → α29 → α30 → α31 → Option β} {Q : (α1 × α2 × α3 × α4 × α5 × α6 × α7 × α8 × α9 × α10 × α11 × α12 × α13 × α14 × α15 × α16 × α17 × α18 × α19 × α20 × α21 × α22 × α23 × α24 × α25 × α26 × α27 × α28 × α29 × α30 × α31) → Prop} {P : β → Prop} (h : zok o Q) (hk : ∀ a1 a2 a3 a4 a5 a6 a7 a8 a9 a10 a11 a12 a13 a14 a15 a16 a17 a18 a19 a20 a21 a22 a23 a24 a25 a26 a27 a28 a29 a30 a31, Q (a1, a2, a3, a4, a5, a6, a7, a8, a9, a10, a11, a12, a13, a14, a15, a16, a17, a18, a19, a20, a21, a22, a23, a24, a25, a26, a27, a28, a29, a30, a31) → zok (k a1 a2 a3 a4 a5 a6 a7 a8 a9 a10 a11 a12 a13 a14 a15 a16 a17 a18 a19 a20 a21 a22 a23 a24 a25 a26 a27 a28 a29 a30 a31) P) : zok (zd31 o k) P := by
  obtain ⟨t, e, q⟩ := h
  unfold zd31
  rw [e]
  exact hk _ _ _ _ _ _ _ _ _ _ _ _ _ _ _ _ _ _ _ _ _ _ _ _ _ _ _ _ _ _ _ q
theorem zk_d32 {α1 α2 α3 α4 α5 α6 α7 α8 α9 α10 α11 α12 α13 α14 α15 α16 α17 α18 α19 α20 α21 α22 α23 α24 α25 α26 α27 α28 α29 α30 α31 α32 β : Type} {o : Option (α1 × α2 × α3 × α4 × α5 × α6 × α7 × α8 × α9 × α10 × α11 × α12 × α13 × α14 × α15 × α16 × α17 × α18 × α19 × α20 × α21 × α22 × α23 × α24 × α25 × α26 × α27 × α28 × α29 × α30 × α31 × α32)} {k : α1 → α2 → α3 → α4 → α5 → α6 → α7 → α8 → α9 → α10 → α11 → α12 → α13 → α14 → α15 → α16 → α17 → α18 → α19 → α20 → α21 → α22 → α23 → α24 → α25 → α26 → α27 → α28 → α29 → α30 → α31 → α32 → Option β} {Q : (α1 × α2 × α3 × α4 × α5 × α6 × α7 × α8 × α9 × α10 × α11 × α12 × α13 × α14 × α15 × α16 × α17 × α18 × α19 × α20 × α21 × α22 × α23 × α24 × α25 × α26 × α27 × α28 × α29 × α30 × α31 × α32) → Prop} {P : β → Prop} (h : zok o Q) (hk : ∀ a1 a2 a3 a4 a5 a6 a7 a8 a9 a10 a11 a12 a13 a14 a15 a16 a17 a18 a19 a20 a21 a22 a23 a24 a25 a26 a27 a28 a29 a30 a31 a32, Q (a1, a2, a3, a4, a5, a6, a7, a8, a9, a10, a11, a12, a13, a14, a15, a16, a17, a18, a19, a20, a21, a22, a23, a24, a25, a26, a27, a28, a29, a30, a31, a32) → zok (k a1 a2 a3 a4 a5 a6 a7 a8 a9 a10 a11 a12 a13 a14 a15 a16 a17 a18 a19 a20 a21 a22 a23 a24 a25 a26 a27 a28 a29 a30 a31 a32) P) : zok (zd32 o k) P := by
  obtain ⟨t, e, q⟩ := h
  unfold zd32
  rw [e]
  exact hk _ _ _ _ _ _ _ _ _ _ _ _ _ _ _ _ _ _ _ _ _ _ _ _ _ _ _ _ _ _ _ _ q
theorem zk_d33 {α1 α2 α3 α4 α5 α6 α7 α8 α9 α10 α11 α12 α13 α14 α15 α16 α17 α18 α19 α20 α21 α22 α23 α24 α25 α26 α27 α28 α29 α30 α31 α32 α33 β : Type} {o : Option (α1 × α2 × α3 × α4 × α5 × α6 × α7 × α8 × α9 × α10 × α11 × α12 × α13 × α14 × α15 × α16 × α17 × α18 × α19 × α20 × α21 × α22 × α23 × α24 × α25 × α26 × α27 × α28 × α29 × α30 × α31 × α32 × α33)} {k : α1 → α2 → α3 → α4 → α5 → α6 → α7 → α8 → α9 → α10 → α11 → α12 → α13 → α14 → α15 → α16 → α17 → α18 → α19 → α20 → α21 → α22 → α23 → α24 → α25 → α26 → α27 → α28 → α29 → α30 → α31 → α32 → α33 → Option β} {Q : (α1 × α2 × α3 × α4 × α5 × α6 × α7 × α8 × α9 × α10 × α11 × α12 × α13 × α14 × α15 × α16 × α17 × α18 × α19 × α20 × α21 × α22 × α23 × α24 × α25 × α26 × α27 × α28 × α29 × α30 × α31 × α32 × α33) → Prop} {P : β → Prop} (h : zok o Q) (hk : ∀ a1 a2 a3 a4 a5 a6 a7 a8 a9 a10 a11 a12 a13 a14 a15 a16 a17 a18 a19 a20 a21 a22 a23 a24 a25 a26 a27 a28 a29 a30 a31 a32 a33, Q (a1, a2, a3, a4, a5, a6, a7, a8, a9, a10, a11, a12, a13, a14, a15, a16, a17, a18, a19, a20, a21, a22, a23, a24, a25, a26, a27, a28, a29, a30, a31, a32, a33) → zok (k a1 a2 a3 a4 a5 a6 a7 a8 a9 a10 a11 a12 a13 a14 a15 a16 a17 a18 a19 a20 a21 a22 a23 a24 a25 a26 a27 a28 a29 a30 a31 a32 a33) P) : zok (zd33 o k) P := by
  obtain ⟨t, e, q⟩ := h
  unfold zd33
  rw [e]
  exact hk _ _ _ _ _ _ _ _ _ _ _ _ _ _ _ _ _ _ _ _ _ _ _ _ _ _ _ _ _ _ _ _ _ q
theorem zk_d34 {α1 α2 α3 α4 α5 α6 α7 α8 α9 α10 α11 α12 α13 α14 α15 α16 α17 α18 α19 α20 α21 α22 α23 α24 α25 α26 α27 α28 α29 α30 α31 α32 α33 α34 β : Type} {o : Option (α1 × α2 × α3 × α4 × α5 × α6 × α7 × α8 × α9 × α10 × α11 × α12 × α13 × α14 × α15 × α16 × α17 × α18 × α19 × α20 × α21 × α22 × α23 × α24 × α25 × α26 × α27 × α28 × α29 × α30 × α31 × α32 × α33 × α34)} {k : α1 → α2 → α3 → α4 → α5 → α6 → α7 → α8 → α9 → α10 → α11 → α12 → α13 → α14 → α15 → α16 → α17 → α18 → α19 → α20 → α21 → α22 → α23 → α24 → α25 → α26 → α27 → α28 → α29 → α30 → α31 → α32 → α33 → α34 → Option β} {Q : (α1 × α2 × α3 × α4 × α5 × α6 × α7 × α8 × α9 × α10 × α11 × α12 × α13 × α14 × α15 × α16 × α17 × α18 × α19 × α20 × α21 × α22 × α23 × α24 × α25 × α26 × α27 × α28 × α29 × α30 × α31 × α32 × α33 × α34) → Prop} {P : β → Prop} (h : zok o Q) (hk : ∀ a1 a2 a3 a4 a5 a6 a7 a8 a9 a10 a11 a12 a13 a14 a15 a16 a17 a18 a19 a20 a21 a22 a23 a24 a25 a26 a27 a28 a29 a30 a31 a32 a33 a34, Q (a1, a2, a3, a4, a5, a6, a7, a8, a9, a10, a11, a12, a13, a14, a15, a16, a17, a18, a19, a20, a21, a22, a23, a24, a25, a26, a27, a28, a29, a30, a31, a32, a33, a34) → zok (k a1 a2 a3 a4 a5 a6 a7 a8 a9 a10 a11 a12 a13 a14 a15 a16 a17 a18 a19 a20 a21 a22 a23 a24 a25 a26 a27 a28 a29 a30 a31 a32 a33 a34) P) : zok (zd34 o k) P := by
  obtain ⟨t, e, q⟩ := h
  unfold zd34
  rw [e]
  exact hk _ _ _ _ _ _ _ _ _ _ _ _ _ _ _ _ _ _ _ _ _ _ _ _ _ _ _ _ _ _ _ _ _ _ q
theorem zk_d35 {α1 α2 α3 α4 α5 α6 α7 α8 α9 α10 α11 α12 α13 α14 α15 α16 α17 α18 α19 α20 α21 α22 α23 α24 α25 α26 α27 α28 α29 α30 α31 α32 α33 α34 α35 β : Type} {o : Option (α1 × α2 × α3 × α4 × α5 × α6 × α7 × α8 × α9 × α10 × α11 × α12 × α13 × α14 × α15 × α16 × α17 × α18 × α19 × α20 × α21 × α22 × α23 × α24 × α25 × α26 × α27 × α28 × α29 × α30 × α31 × α32 × α33 × α34 × α35)} {k : α1 → α2 → α3 → α4 → α5 → α6 → α7 → α8 → α9 → α10 → α11 → α12 → α13 → α14 → α15 → α16 → α17 → α18 → α19 → α20 → α21 → α22 → α23 → α24 → α25 → α26 → α27 → α28 → α29 → α30 → α31 → α32 → α33 → α34 → α35 → Option β} {Q : (α1 × α2 × α3 × α4 × α5 × α6 × α7 × α8 × α9 × α10 × α11 × α12 × α13 × α14 × α15 × α16 × α17 × α18 × α19 × α20 × α21 × α22 × α23 × α24 × α25 × α26 × α27 × α28 × α29 × α30 × α31 × α32 × α33 × α34 × α35) → Prop} {P : β → Prop} (h : zok o Q) (hk : ∀ a1 a2 a3 a4 a5 a6 a7 a8 a9 a10 a11 a12 a13 a14 a15 a16 a17 a18 a19 a20 a21 a22 a23 a24 a25 a26 a27 a28 a29 a30 a31 a32 a33 a34 a35, Q (a1, a2, a3, a4, a5, a6, a7, a8, a9, a10, a11, a12, a13, a14, a15, a16, a17, a18, a19, a20, a21, a22, a23, a24, a25, a26, a27, a28, a29, a30, a31, a32, a33, a34, a35) → zok (k a1 a2 a3 a4 a5 a6 a7 a8 a9 a10 a11 a12 a13 a14 a15 a16 a17 a18 a19 a20 a21 a22 a23 a24 a25 a26 a27 a28 a29 a30 a31 a32 a33 a34 a35) P) : zok (zd35 o k) P := by
  obtain ⟨t, e, q⟩ := h
  unfold zd35
  rw [e]
  exact hk _ _ _ _ _ _ _ _ _ _ _ _ _ _ _ _ _ _ _ _ _ _ _ _ _ _ _ _ _ _ _ _ _ _ _ q
theorem zk_d36 {α1 α2 α3 α4 α5 α6 α7 α8 α9 α10 α11 α12 α13 α14 α15 α16 α17 α18 α19 α20 α21 α22 α23 α24 α25 α26 α27 α28 α29 α30 α31 α32 α33 α34 α35 α36 β : Type} {o : Option (α1 × α2 × α3 × α4 × α5 × α6 × α7 × α8 × α9 × α10 × α11 × α12 × α13 × α14 × α15 × α16 × α17 × α18 × α19 × α20 × α21 × α22 × α23 × α24 × α25 × α26 × α27 × α28 × α29 × α30 × α31 × α32 × α33 × α34 × α35 × α36)} {k : α1 → α2 → α3 → α4 → α5 → α6 → α7 → α8 → α9 → α10 → α11 → α12 → α13 → α14 → α15 → α16 → α17 → α18 → α19 → α20 → α21 → α22 → α23 → α24 → α25 → α26 → α27 → α28 → α29 → α30 → α31 → α32 → α33 → α34 → α35 → α36 → Option β} {Q : (α1 × α2 × α3 × α4 × α5 × α6 × α7 × α8 × α9 × α10 × α11 × α12 × α13 × α14 × α15 × α16 × α17 × α18 × α19 × α20 × α21 × α22 × α23 × α24 × α25 × α26 × α27 × α28 × α29 × α30 × α31 × α32 × α33 × α34 × α35 × α36) → Prop} {P : β → Prop} (h : zok o Q) (hk : ∀ a1 a2 a3 a4 a5 a6 a7 a8 a9 a10 a11 a12 a13 a14 a15 a16 a17 a18 a19 a20 a21 a22 a23 a24 a25 a26 a27 a28 a29 a30 a31 a32 a33 a34 a35 a36, Q (a1, a2, a3, a4, a5, a6, a7, a8, a9, a10, a11, a12, a13, a14, a15, a16, a17, a18, a19, a20, a21, a22, a23, a24, a25, a26, a27, a28, a29, a30, a31, a32, a33, a34, a35, a36) → zok (k a1 a2 a3 a4 a5 a6 a7 a8 a9 a10 a11 a12 a13 a14 a15 a16 a17 a18 a19 a20 a21 a22 a23 a24 a25 a26 a27 a28 a29 a30 a31 a32 a33 a34 a35 a36) P) : zok (zd36 o k) P := by
  obtain ⟨t, e, q⟩ := h
  unfold zd36
  rw [e]
  exact hk _ _ _ _ _ _ _ _ _ _ _ _ _ _ _ _ _ _ _ _ _ _ _ _ _ _ _ _ _ _ _ _ _ _ _ _ q
theorem zk_d37 {α1 α2 α3 α4 α5 α6 α7 α8 α9 α10 α11 α12 α13 α14 α15 α16 α17 α18 α19 α20 α21 α22 α23 α24 α25 α26 α27 α28 α29 α30 α31 α32 α33 α34 α35 α36 α37 β : Type} {o : Option (α1 × α2 × α3 × α4 × α5 × α6 × α7 × α8 × α9 × α10 × α11 × α12 × α13 × α14 × α15 × α16 × α17 × α18 × α19 × α20 × α21 × α22 × α23 × α24 × α25 × α26 × α27 × α28 × α29 × α30 × α31 × α32 × α33 × α34 × α35 × α36 × α37)} {k : α1 → α2 → α3 → α4 → α5 → α6 → α7 → α8 → α9 → α10 → α11 → α12 → α13 → α14 → α15 → α16 → α17 → α18 → α19 → α20 → α21 → α22 → α23 → α24 → α25 → α26 → α27 → α28 → α29 → α30 → α31 → α32 → α33 → α34 → α35 → α36 → α37 → Option β} {Q : (α1 × α2 × α3 × α4 × α5 × α6 × α7 × α8 × α9 × α10 × α11 × α12 × α13 × α14 × α15 × α16 × α17 × α18 × α19 × α20 × α21 × α22 × α23 × α24 × α25 × α26 × α27 × α28 × α29 × α30 × α31 × α32 × α33 × α34 × α35 × α36 × α37) → Prop} {P : β → Prop} (h : zok o Q) (hk : ∀ a1 a2 a3 a4 a5 a6 a7 a8 a9 a10 a11 a12 a13 a14 a15 a16 a17 a18 a19 a20 a21 a22 a23 a24 a25 a26 a27 a28 a29 a30 a31 a32 a33 a34 a35 a36 a37, Q (a1, a2, a3, a4, a5, a6, a7, a8, a9, a10, a11, a12, a13, a14, a15, a16, a17, a18, a19, a20, a21, a22, a23, a24, a25, a26, a27, a28, a29, a30, a31, a32, a33, a34, a35, a36, a37) → zok (k a1 a2 a3 a4 a5 a6 a7 a8 a9 a10 a11 a12 a13 a14 a15 a16 a17 a18 a19 a20 a21 a22 a23 a24 a25 a26 a27 a28 a29 a30 a31 a32 a33 a34 a35 a36 a37) P) : zok (zd37 o k) P := by
  obtain ⟨t, e, q⟩ := h
  unfold zd37
  rw [e]
  exact hk _ _ _ _ _ _ _ _ _ _ _ _ _ _ _ _ _ _ _ _ _ _ _ _ _ _ _ _ _ _ _ _ _ _ _ _ _ q
theorem zk_d38 {α1 α2 α3 α4 α5 α6 α7 α8 α9 α10 α11 α12 α13 α14 α15 α16 α17 α18 α19 α20 α21 α22 α23 α24 α25 α26 α27 α28 α29 α30 α31 α32 α33 α34 α35 α36 α37 α38 β : Type} {o : Option (α1 × α2 × α3 × α4 × α5 × α6 × α7 × α8 × α9 × α10 × α11 × α12 × α13 × α14 × α15 × α16 × α17 × α18 × α19 × α20 × α21 × α22 × α23 × α24 × α25 × α26 × α27 × α28 × α29 × α30 × α31 × α32 × α33 × α34 × α35 × α36 × α37 × α38)} {k : α1 → α2 → α3 → α4 → α5 → α6 → α7 → α8 → α9 → α10 → α11 → α12 → α13 → α14 → α15 → α16 → α17 → α18 → α19 → α20 → α21 → α22 → α23 → α24 → α25 → α26 → α27 → α28 → α29 → α30 → α31 → α32 → α33 → α34 → α35 → α36 → α37 → α38 → Option β} {Q : (α1 × α2 × α3 × α4 × α5 × α6 × α7 × α8 × α9 × α10 × α11 × α12 × α13 × α14 × α15 × α16 × α17 × α18 × α19 × α20 × α21 × α22 × α23 × α24 × α25 × α26 × α27 × α28 × α29 × α30 × α31 × α32 × α33 × α34 × α35 × α36 × α37 × α38) → Prop} {P : β → Prop} (h : zok o Q) (hk : ∀ a1 a2 a3 a4 a5 a6 a7 a8 a9 a10 a11 a12 a13 a14 a15 a16 a17 a18 a19 a20 a21 a22 a23 a24 a25 a26 a27 a28 a29 a30 a31 a32 a33 a34 a35 a36 a37 a38, Q (a1, a2, a3, a4, a5, a6, a7, a8, a9, a10, a11, a12, a13, a14, a15, a16, a17, a18, a19, a20, a21, a22, a23, a24, a25, a26, a27, a28, a29, a30, a31, a32, a33, a34, a35, a36, a37, a38) → zok (k a1 a2 a3 a4 a5 a6 a7 a8 a9 a10 a11 a12 a13 a14 a15 a16 a17 a18 a19 a20 a21 a22 a23 a24 a25 a26 a27 a28 a29 a30 a31 a32 a33 a34 a35 a36 a37 a38) P) : zok (zd38 o k) P := by
  obtain ⟨t, e, q⟩ := h
  unfold zd38
  rw [e]
  exact hk _ _ _ _ _ _ _ _ _ _ _ _ _ _ _ _ _ _ _ _ _ _ _ _ _ _ _ _ _ _ _ _ _ _ _ _ _ _ q
theorem zk_d39 {α1 α2 α3 α4 α5 α6 α7 α8 α9 α10 α11 α12 α13 α14 α15 α16 α17 α18 α19 α20 α21 α22 α23 α24 α25 α26 α27 α28 α29 α30 α31 α32 α33 α34 α35 α36 α37 α38 α39 β : Type} {o : Option (α1 × α2 × α3 × α4 × α5 × α6 × α7 × α8 × α9 × α10 × α11 × α12 × α13 × α14 × α15 × α16 × α17 × α18 × α19 × α20 × α21 × α22 × α23 × α24 × α25 × α26 × α27 × α28 × α29 × α30 × α31 × α32 × α33 × α34 × α35 × α36 × α37 × α38 × α39)} {k : α1 → α2 → α3 → α4 → α5 → α6 → α7 → α8 → α9 → α10 → α11 → α12 → α13 → α14 → α15 → α16 → α17 → α18 → α19 → α20 → α21 → α22 → α23 → α24 → α25 → α26 → α27 → α28 → α29 → α30 → α31 → α32 → α33 → α34 → α35 → α36 → α37 → α38 → α39 → Option β} {Q : (α1 × α2 × α3 × α4 × α5 × α6 × α7 × α8 × α9 × α10 × α11 × α12 × α13 × α14 × α15 × α16 × α17 × α18 × α19 × α20 × α21 × α22 × α23 × α24 × α25 × α26 × α27 × α28 × α29 × α30 × α31 × α32 × α33 × α34 × α35 × α36 × α37 × α38 × α39) → Prop} {P : β → Prop} (h : zok o Q) (hk : ∀ a1 a2 a3 a4 a5 a6 a7 a8 a9 a10 a11 a12 a13 a14 a15 a16 a17 a18 a19 a20 a21 a22 a23 a24 a25 a26 a27 a28 a29 a30 a31 a32 a33 a34 a35 a36 a37 a38 a39, Q (a1, a2, a3, a4, a5, a6, a7, a8, a9, a10, a11, a12, a13, a14, a15, a16, a17, a18, a19, a20, a21, a22, a23, a24, a25, a26, a27, a28, a29, a30, a31, a32, a33, a34, a35, a36, a37, a38, a39) → zok (k a1 a2 a3 a4 a5 a6 a7 a8 a9 a10 a11 a12 a13 a14 a15 a16 a17 a18 a19 a20 a21 a22 a23 a24 a25 a26 a27 a28 a29 a30 a31 a32 a33 a34 a35 a36 a37 a38 a39) P) : zok (zd39 o k) P := by
  obtain ⟨t, e, q⟩ := h
  unfold zd39
  rw [e]
  exact hk _ _ _ _ _ _ _ _ _ _ _ _ _ _ _ _ _ _ _ _ _ _ _ _ _ _ _ _ _ _ _ _ _ _ _ _ _ _ _ q
theorem zk_d40 {α1 α2 α3 α4 α5 α6 α7 α8 α9 α10 α11 α12 α13 α14 α15 α16 α17 α18 α19 α20 α21 α22 α23 α24 α25 α26 α27 α28 α29 α30 α31 α32 α33 α34 α35 α36 α37 α38 α39 α40 β : Type} {o : Option (α1 × α2 × α3 × α4 × α5 × α6 × α7 × α8 × α9 × α10 × α11 × α12 × α13 × α14 × α15 × α16 × α17 × α18 × α19 × α20 × α21 × α22 × α23 × α24 × α25 × α26 × α27 × α28 × α29 × α30 × α31 × α32 × α33 × α34 × α35 × α36 × α37 × α38 × α39 × α40)} {k : α1 → α2 → α3 → α4 → α5 → α6 → α7 → α8 → α9 → α10 → α11 → α12 → α13 → α14 → α15 → α16 → α17 → α18 → α19 → α20 → α21 → α22 → α23 → α24 → α25 → α26 → α27 → α28 → α29 → α30 → α31 → α32 → α33 → α34 → α35 → α36 → α37 → α38 → α39 → α40 → Option β} {Q : (α1 × α2 × α3 × α4 × α5 × α6 × α7 × α8 × α9 × α10 × α11 × α12 × α13 × α14 × α15 × α16 × α17 × α18 × α19 × α20 × α21 × α22 × α23 × α24 × α25 × α26 × α27 × α28 × α29 × α30 × α31 × α32 × α33 × α34 × α35 × α36 × α37 × α38 × α39 × α40) → Prop} {P : β → Prop} (h : zok o Q) (hk : ∀ a1 a2 a3 a4 a5 a6 a7 a8 a9 a10 a11 a12 a13 a14 a15 a16 a17 a18 a19 a20 a21 a22 a23 a24 a25 a26 a27 a28 a29 a30 a31 a32 a33 a34 a35 a36 a37 a38 a39 a40, Q (a1, a2, a3, a4, a5, a6, a7, a8, a9, a10, a11, a12, a13, a14, a15, a16, a17, a18, a19, a20, a21, a22, a23, a24, a25, a26, a27, a28, a29, a30, a31, a32, a33, a34, a35, a36, a37, a38, a39, a40) → zok (k a1 a2 a3 a4 a5 a6 a7 a8 a9 a10 a11 a12 a13 a14 a15 a16 a17 a18 a19 a20 a21 a22 a23 a24 a25 a26 a27 a28 a29 a30 a31 a32 a33 a34 a35 a36 a37 a38 a39 a40) P) : zok (zd40 o k) P := by
  obtain ⟨t, e, q⟩ := h
  unfold zd40
  rw [e]
  exact hk _ _ _ _ _ _ _ _ _ _ _ _ _ _ _ _ _ _ _ _ _ _ _ _ _ _ _ _ _ _ _ _ _ _ _ _ _ _ _ _ q
