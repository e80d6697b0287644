section
/-! OUR OWN: that the pure functions answer -/
noncomputable def zok {α : Type} (o : Option α) (P : α → Prop) : Prop := ∃ x, o = some x ∧ P x
theorem zk_ret {α : Type} {x : α} {P : α → Prop} (h : P x) : zok (some x) P := ⟨x, rfl, h⟩
theorem zok_mono {α : Type} {o : Option α} {P Q : α → Prop} (h : zok o P) (hq : ∀ x, P x → Q x) : zok o Q := by
  obtain ⟨x, h1, h2⟩ := h
  exact ⟨x, h1, hq x h2⟩
theorem zk_nE {α β : Type} {x : α} {k : α → Option β} {P : β → Prop} (h : ∀ v, v = x → zok (k v) P) : zok (zn x k) P := h x rfl
theorem zk_n {α β : Type} {x : α} {k : α → Option β} {P : β → Prop} (h : zok (k x) P) : zok (zn x k) P := h
theorem zmulb {a b : Int} (A B : Int) (ha : 0 ≤ a ∧ a ≤ A) (hb : 0 ≤ b ∧ b ≤ B) : 0 ≤ a * b ∧ a * b ≤ A * B :=
  ⟨Int.mul_nonneg ha.1 hb.1, Int.mul_le_mul ha.2 hb.2 hb.1 (Int.le_trans ha.1 ha.2)⟩
theorem zmulA {a b : Int} (A B : Int) (ha : -A ≤ a ∧ a ≤ A) (hb : -B ≤ b ∧ b ≤ B) : -(A * B) ≤ a * b ∧ a * b ≤ A * B := by
  have h1 : a.natAbs ≤ A.natAbs := by omega
  have h2 : b.natAbs ≤ B.natAbs := by omega
  have h3 : (a * b).natAbs ≤ (A * B).natAbs := by
    rw [Int.natAbs_mul, Int.natAbs_mul]
    exact Nat.mul_le_mul h1 h2
  have h4 : 0 ≤ A * B := Int.mul_nonneg (by omega) (by omega)
  omega
theorem zwi {x : Int} (h : -2147483648 ≤ x ∧ x ≤ 2147483647) : zi_w x = x := by
  unfold zi_w
  exact Int32.toInt_ofInt_of_le (by omega) (by omega)
theorem zwl {x : Int} (h : -9223372036854775808 ≤ x ∧ x ≤ 9223372036854775807) : zl_w x = x := by
  unfold zl_w
  exact Int64.toInt_ofInt_of_le (by omega) (by omega)
theorem zi_r (x : Int) : -2147483648 ≤ zi_w x ∧ zi_w x ≤ 2147483647 := by
  have h1 := Int32.le_toInt (Int32.ofInt x)
  have h2 := Int32.toInt_lt (Int32.ofInt x)
  unfold zi_w
  omega
theorem zl_r (x : Int) : -9223372036854775808 ≤ zl_w x ∧ zl_w x ≤ 9223372036854775807 := by
  have h1 := Int64.le_toInt (Int64.ofInt x)
  have h2 := Int64.toInt_lt (Int64.ofInt x)
  unfold zl_w
  omega
theorem zci_eq {a b : Int} (ha : -2147483648 ≤ a ∧ a ≤ 2147483647) (hb : -2147483648 ≤ b ∧ b ≤ 2147483647) : zi_w a = zi_w b ↔ a = b := by rw [zwi ha, zwi hb]
theorem zci_ne {a b : Int} (ha : -2147483648 ≤ a ∧ a ≤ 2147483647) (hb : -2147483648 ≤ b ∧ b ≤ 2147483647) : zi_w a ≠ zi_w b ↔ a ≠ b := by rw [zwi ha, zwi hb]
theorem zci_lt {a b : Int} (ha : -2147483648 ≤ a ∧ a ≤ 2147483647) (hb : -2147483648 ≤ b ∧ b ≤ 2147483647) : zi_w a < zi_w b ↔ a < b := by rw [zwi ha, zwi hb]
theorem zci_le {a b : Int} (ha : -2147483648 ≤ a ∧ a ≤ 2147483647) (hb : -2147483648 ≤ b ∧ b ≤ 2147483647) : zi_w a ≤ zi_w b ↔ a ≤ b := by rw [zwi ha, zwi hb]
theorem zci_eqr {a b : Int} (ha : -2147483648 ≤ a ∧ a ≤ 2147483647) : zi_w a = b ↔ a = b := by rw [zwi ha]
theorem zci_ner {a b : Int} (ha : -2147483648 ≤ a ∧ a ≤ 2147483647) : zi_w a ≠ b ↔ a ≠ b := by rw [zwi ha]
theorem zci_ltr {a b : Int} (ha : -2147483648 ≤ a ∧ a ≤ 2147483647) : zi_w a < b ↔ a < b := by rw [zwi ha]
theorem zci_ler {a b : Int} (ha : -2147483648 ≤ a ∧ a ≤ 2147483647) : zi_w a ≤ b ↔ a ≤ b := by rw [zwi ha]
theorem zci_eql {a b : Int} (hb : -2147483648 ≤ b ∧ b ≤ 2147483647) : a = zi_w b ↔ a = b := by rw [zwi hb]
theorem zci_nel {a b : Int} (hb : -2147483648 ≤ b ∧ b ≤ 2147483647) : a ≠ zi_w b ↔ a ≠ b := by rw [zwi hb]
theorem zci_ltl {a b : Int} (hb : -2147483648 ≤ b ∧ b ≤ 2147483647) : a < zi_w b ↔ a < b := by rw [zwi hb]
theorem zci_lel {a b : Int} (hb : -2147483648 ≤ b ∧ b ≤ 2147483647) : a ≤ zi_w b ↔ a ≤ b := by rw [zwi hb]
theorem zcl_eq {a b : Int} (ha : -9223372036854775808 ≤ a ∧ a ≤ 9223372036854775807) (hb : -9223372036854775808 ≤ b ∧ b ≤ 9223372036854775807) : zl_w a = zl_w b ↔ a = b := by rw [zwl ha, zwl hb]
theorem zcl_ne {a b : Int} (ha : -9223372036854775808 ≤ a ∧ a ≤ 9223372036854775807) (hb : -9223372036854775808 ≤ b ∧ b ≤ 9223372036854775807) : zl_w a ≠ zl_w b ↔ a ≠ b := by rw [zwl ha, zwl hb]
theorem zcl_lt {a b : Int} (ha : -9223372036854775808 ≤ a ∧ a ≤ 9223372036854775807) (hb : -9223372036854775808 ≤ b ∧ b ≤ 9223372036854775807) : zl_w a < zl_w b ↔ a < b := by rw [zwl ha, zwl hb]
theorem zcl_le {a b : Int} (ha : -9223372036854775808 ≤ a ∧ a ≤ 9223372036854775807) (hb : -9223372036854775808 ≤ b ∧ b ≤ 9223372036854775807) : zl_w a ≤ zl_w b ↔ a ≤ b := by rw [zwl ha, zwl hb]
theorem zcl_eqr {a b : Int} (ha : -9223372036854775808 ≤ a ∧ a ≤ 9223372036854775807) : zl_w a = b ↔ a = b := by rw [zwl ha]
theorem zk_if {β : Type} {c : Prop} {i : Decidable c} {x y : Option β} {P : β → Prop} (h1 : c → zok x P) (h2 : ¬ c → zok y P) : zok (if c then x else y) P := by
  by_cases h : c
  · rw [if_pos h]; exact h1 h
  · rw [if_neg h]; exact h2 h
theorem zk_ifc {β : Type} {c c' : Prop} {i : Decidable c} {x y : Option β} {P : β → Prop} (e : c ↔ c') (h1 : c' → zok x P) (h2 : ¬ c' → zok y P) : zok (if c then x else y) P :=
  zk_if (fun h => h1 (e.mp h)) (fun h => h2 (fun q => h (e.mpr q)))
theorem zk_gb {β : Type} {v : Int} {i : Decidable (¬ (zi_w v = 0 ∨ zi_w v = 1))} {x : Option β} {P : β → Prop} (h : v = 0 ∨ v = 1) (h1 : zok x P) : zok (if ¬ (zi_w v = 0 ∨ zi_w v = 1) then none else x) P := by
  have e : zi_w v = v := zwi (by omega)
  rw [if_neg (by rw [e]; exact fun q => q h)]
  exact h1
theorem zk_gc {β : Type} {v : Int} {i : Decidable (¬ (0 ≤ zi_w v ∧ zi_w v < 128))} {x : Option β} {P : β → Prop} (h : 0 ≤ v ∧ v < 128) (h1 : zok x P) : zok (if ¬ (0 ≤ zi_w v ∧ zi_w v < 128) then none else x) P := by
  have e : zi_w v = v := zwi (by omega)
  rw [if_neg (by rw [e]; exact fun q => q h)]
  exact h1
theorem zk_g0zi_w {β : Type} {v : Int} {i : Decidable (zi_w v = 0)} {x : Option β} {P : β → Prop} (h : (-2147483648 ≤ v ∧ v ≤ 2147483647) ∧ v ≠ 0) (h1 : zok x P) : zok (if zi_w v = 0 then none else x) P := by
  rw [if_neg (by rw [zwi h.1]; exact h.2)]
  exact h1
theorem zk_g0zl_w {β : Type} {v : Int} {i : Decidable (zl_w v = 0)} {x : Option β} {P : β → Prop} (h : (-9223372036854775808 ≤ v ∧ v ≤ 9223372036854775807) ∧ v ≠ 0) (h1 : zok x P) : zok (if zl_w v = 0 then none else x) P := by
  rw [if_neg (by rw [zwl h.1]; exact h.2)]
  exact h1
theorem zk_gv {β : Type} {n : Nat} {f : Nat → Int} {i : Int} {k : Int → Option β} {P : β → Prop} (h : 0 ≤ i ∧ i < (n : Int)) (hn : n ≤ 2147483648) (hk : ∀ v, v = f i.toNat → zok (k v) P) : zok (zg n f i k) P := by
  have e : zi_w i = i := zwi (by omega)
  unfold zg
  rw [e, if_pos h]
  exact hk _ rfl
theorem zk_gl {β : Type} {n : Nat} {f : Nat → Int} {i : Int} {k : Int → Option β} {P : β → Prop} (j : Nat) (h : (j : Int) = i) (hj : j < n) (hn : n ≤ 2147483648) (hk : ∀ v, v = f j → zok (k v) P) : zok (zg n f i k) P := by
  refine zk_gv (by omega) hn (fun v hv => hk v ?_)
  rw [hv, ← h, Int.toNat_natCast]
theorem zk_sv {β : Type} {n : Nat} {f : Nat → Int} {i w : Int} {k : (Nat → Int) → Option β} {P : β → Prop} (h : 0 ≤ i ∧ i < (n : Int)) (hn : n ≤ 2147483648) (hk : ∀ a, a = zu f i.toNat w → zok (k a) P) : zok (zs n f i w k) P := by
  have e : zi_w i = i := zwi (by omega)
  unfold zs
  rw [e, if_pos h]
  exact hk _ rfl
theorem zk_sl {β : Type} {n : Nat} {f : Nat → Int} {i w : Int} {k : (Nat → Int) → Option β} {P : β → Prop} (j : Nat) (h : (j : Int) = i) (hj : j < n) (hn : n ≤ 2147483648) (hk : ∀ a, a = zu f j w → zok (k a) P) : zok (zs n f i w k) P := by
  refine zk_sv (by omega) hn (fun v hv => hk v ?_)
  rw [hv, ← h, Int.toNat_natCast]
theorem zk_cp {β : Type} {n0 n1 : Nat} {f g : Nat → Int} {a b n : Int} {k : (Nat → Int) → Option β} {P : β → Prop} (h : 0 ≤ a ∧ 0 ≤ b ∧ 0 ≤ n ∧ a + n ≤ (n0 : Int) ∧ b + n ≤ (n1 : Int) ∧ n0 ≤ 2147483647 ∧ n1 ≤ 2147483647) (hk : ∀ u, u = va_cpy f g a.toNat b.toNat n.toNat → zok (k u) P) : zok (zcp n0 f a n1 g b n k) P := by
  have e1 : zi_w a = a := zwi (by omega)
  have e2 : zi_w b = b := zwi (by omega)
  have e3 : zi_w n = n := zwi (by omega)
  unfold zcp
  rw [e1, e2, e3, if_pos (by omega)]
  exact hk _ rfl
theorem zu_eq (f : Nat → Int) (i : Nat) (v : Int) : zu f i v i = v := by unfold zu; rw [if_pos rfl]
theorem zu_ne (f : Nat → Int) {i j : Nat} (v : Int) (h : j ≠ i) : zu f i v j = f j := by unfold zu; rw [if_neg h]
theorem zu_rd {a f : Nat → Int} {i : Nat} {v : Int} (h : a = zu f i v) (j : Nat) : (j = i ∧ a j = v) ∨ (j ≠ i ∧ a j = f j) := by
  by_cases q : j = i
  · subst q; exact Or.inl ⟨rfl, by rw [h, zu_eq]⟩
  · exact Or.inr ⟨q, by rw [h, zu_ne _ _ q]⟩
/-! ranges of rows -/
noncomputable def zR (f : Nat → Int) (lo hi : Int) : Prop := ∀ j, lo ≤ f j ∧ f j ≤ hi
theorem zR_w {f : Nat → Int} {a b lo hi : Int} (h : zR f a b) (h1 : lo ≤ a) (h2 : b ≤ hi) : zR f lo hi := fun j => by
  have := h j
  omega
theorem zR_zu {f : Nat → Int} {a b lo hi v : Int} {i : Nat} (h : zR f a b) (h1 : lo ≤ a) (h2 : b ≤ hi) (hv : lo ≤ v ∧ v ≤ hi) : zR (zu f i v) lo hi := fun j => by
  unfold zu
  by_cases q : j = i
  · rw [if_pos q]; exact hv
  · rw [if_neg q]
    have := h j
    omega
theorem zR_cp {f g : Nat → Int} {lo hi : Int} {s t n : Nat} (h : zR f lo hi) (h1 : zR g lo hi) : zR (va_cpy f g s t n) lo hi := fun j => by
  unfold va_cpy
  by_cases q : t ≤ j ∧ j < t + n
  · rw [if_pos q]; exact h _
  · rw [if_neg q]; exact h1 _
theorem zR_c {c lo hi : Int} (h : lo ≤ c ∧ c ≤ hi) : zR (fun _ => c) lo hi := fun _ => h
theorem zbm {n : Int} (h : -2147483648 ≤ n ∧ n ≤ 2147483647) : n.bmod (2 ^ 32) = n := by
  have h1 := zwi h
  unfold zi_w at h1
  rw [Int32.toInt_ofInt] at h1
  exact h1
theorem zbl {n : Int} (h : -9223372036854775808 ≤ n ∧ n ≤ 9223372036854775807) : n.bmod (2 ^ 64) = n := by
  have h1 := zwl h
  unfold zl_w at h1
  rw [Int64.toInt_ofInt] at h1
  exact h1
theorem zdv {x y : Int} (hx : 0 ≤ x) (hy : 0 < y) : 0 ≤ x / y ∧ x / y ≤ x ∧ 0 ≤ x / y * y ∧ x / y * y ≤ x := by
  have h1 := Int.ediv_nonneg hx (Int.le_of_lt hy)
  exact ⟨h1, Int.ediv_le_self y hx, Int.mul_nonneg h1 (Int.le_of_lt hy), Int.ediv_mul_le x (by omega)⟩
theorem zi_div_n {x y : Int} (hx : 0 ≤ x ∧ x ≤ 2147483647) (hy : 0 < y ∧ y ≤ 2147483647) : zi_div x y = x / y := by
  have hd := zdv hx.1 hy.1
  have e1 : (Int32.ofInt x).toInt = x := zwi (by omega)
  have e2 : (Int32.ofInt y).toInt = y := zwi (by omega)
  unfold zi_div
  rw [Int32.toInt_div, e1, e2, Int.tdiv_eq_ediv_of_nonneg hx.1, zbm (by omega)]
theorem zi_rem_n {x y : Int} (hx : 0 ≤ x ∧ x ≤ 2147483647) (hy : 0 < y ∧ y ≤ 2147483647) : zi_rem x y = x % y := by
  have hd := zdv hx.1 hy.1
  have e1 : (Int32.ofInt x).toInt = x := zwi (by omega)
  have e2 : (Int32.ofInt y).toInt = y := zwi (by omega)
  have e3 : (Int32.ofInt x / Int32.ofInt y).toInt = x / y := by
    rw [Int32.toInt_div, e1, e2, Int.tdiv_eq_ediv_of_nonneg hx.1, zbm (by omega)]
  unfold zi_rem
  rw [Int32.toInt_sub, Int32.toInt_mul, e1, e2, e3, zbm (n := x / y * y) (by omega), zbm (by omega), Int.emod_def, Int.mul_comm]
theorem zl_div_n {x y : Int} (hx : 0 ≤ x ∧ x ≤ 9223372036854775807) (hy : 0 < y ∧ y ≤ 9223372036854775807) : zl_div x y = x / y := by
  have hd := zdv hx.1 hy.1
  have e1 : (Int64.ofInt x).toInt = x := zwl (by omega)
  have e2 : (Int64.ofInt y).toInt = y := zwl (by omega)
  unfold zl_div
  rw [Int64.toInt_div, e1, e2, Int.tdiv_eq_ediv_of_nonneg hx.1, zbl (by omega)]
theorem zl_rem_n {x y : Int} (hx : 0 ≤ x ∧ x ≤ 9223372036854775807) (hy : 0 < y ∧ y ≤ 9223372036854775807) : zl_rem x y = x % y := by
  have hd := zdv hx.1 hy.1
  have e1 : (Int64.ofInt x).toInt = x := zwl (by omega)
  have e2 : (Int64.ofInt y).toInt = y := zwl (by omega)
  have e3 : (Int64.ofInt x / Int64.ofInt y).toInt = x / y := by
    rw [Int64.toInt_div, e1, e2, Int.tdiv_eq_ediv_of_nonneg hx.1, zbl (by omega)]
  unfold zl_rem
  rw [Int64.toInt_sub, Int64.toInt_mul, e1, e2, e3, zbl (n := x / y * y) (by omega), zbl (by omega), Int.emod_def, Int.mul_comm]
theorem zi_and_le (x : Int) {m : Int} (h : 0 ≤ m ∧ m ≤ 2147483647) : 0 ≤ zi_and x m ∧ zi_and x m ≤ m := by
  have e : zi_and x m = ((Int32.ofInt x).toBitVec &&& (Int32.ofInt m).toBitVec).toInt := rfl
  have e2 : (Int32.ofInt m).toBitVec.toInt = m := zwi (x := m) (by omega)
  have h1 : ((Int32.ofInt x).toBitVec &&& (Int32.ofInt m).toBitVec).toNat ≤ (Int32.ofInt m).toBitVec.toNat := by
    rw [BitVec.toNat_and]
    exact Nat.and_le_right
  have h2 := (Int32.ofInt m).toBitVec.isLt
  rw [BitVec.toInt_eq_toNat_cond] at e2
  rw [e, BitVec.toInt_eq_toNat_cond]
  split at e2 <;> split <;> omega
theorem zi_and_m (x : Int) {m : Int} (h : (decide (0 ≤ m) && decide (m ≤ 2147483647)) = true) : 0 ≤ zi_and x m ∧ zi_and x m ≤ m := by
  have h1 := Bool.and_eq_true_iff.mp h
  exact zi_and_le x ⟨of_decide_eq_true h1.1, of_decide_eq_true h1.2⟩
theorem zi_I (a : Int32) : -2147483648 ≤ a.toInt ∧ a.toInt ≤ 2147483647 := by
  have h1 := Int32.le_toInt a
  have h2 := Int32.toInt_lt a
  omega
theorem zl_I (a : Int64) : -9223372036854775808 ≤ a.toInt ∧ a.toInt ≤ 9223372036854775807 := by
  have h1 := Int64.le_toInt a
  have h2 := Int64.toInt_lt a
  omega
theorem zi_and_f (x y : Int) : -2147483648 ≤ zi_and x y ∧ zi_and x y ≤ 2147483647 := zi_I _
theorem zi_or_f (x y : Int) : -2147483648 ≤ zi_or x y ∧ zi_or x y ≤ 2147483647 := zi_I _
theorem zi_xor_f (x y : Int) : -2147483648 ≤ zi_xor x y ∧ zi_xor x y ≤ 2147483647 := zi_I _
theorem zi_shl_f (x y : Int) : -2147483648 ≤ zi_shl x y ∧ zi_shl x y ≤ 2147483647 := zi_I _
theorem zi_shr_f (x y : Int) : -2147483648 ≤ zi_shr x y ∧ zi_shr x y ≤ 2147483647 := zi_I _
theorem zi_ushr_f (x y : Int) : -2147483648 ≤ zi_ushr x y ∧ zi_ushr x y ≤ 2147483647 := zi_I _
theorem zl_xor_f (x y : Int) : -9223372036854775808 ≤ zl_xor x y ∧ zl_xor x y ≤ 9223372036854775807 := zl_I _
theorem zl_or_f (x y : Int) : -9223372036854775808 ≤ zl_or x y ∧ zl_or x y ≤ 9223372036854775807 := zl_I _
theorem zl_shl_f (x y : Int) : -9223372036854775808 ≤ zl_shl x y ∧ zl_shl x y ≤ 9223372036854775807 := zl_I _
theorem zl_ushr_f (x y : Int) : -9223372036854775808 ≤ zl_ushr x y ∧ zl_ushr x y ≤ 9223372036854775807 := zl_I _
theorem zi_max_f (x : Int) (hx : -2147483648 ≤ x ∧ x ≤ 2147483647) (y : Int) (hy : -2147483648 ≤ y ∧ y ≤ 2147483647) : (x < y ∧ zi_max x y = y) ∨ (y ≤ x ∧ zi_max x y = x) := by
  unfold zi_max
  rw [zwi hx, zwi hy]
  by_cases h : x < y
  · rw [if_pos h]; omega
  · rw [if_neg h]; omega
theorem zi_min_f (x : Int) (hx : -2147483648 ≤ x ∧ x ≤ 2147483647) (y : Int) (hy : -2147483648 ≤ y ∧ y ≤ 2147483647) : (y < x ∧ zi_min x y = y) ∨ (x ≤ y ∧ zi_min x y = x) := by
  unfold zi_min
  rw [zwi hx, zwi hy]
  by_cases h : y < x
  · rw [if_pos h]; omega
  · rw [if_neg h]; omega
theorem zi_abs_f (x : Int) (hx : -2147483648 ≤ x ∧ x ≤ 2147483647) : (x < 0 ∧ zi_abs x = -x) ∨ (0 ≤ x ∧ zi_abs x = x) := by
  unfold zi_abs
  rw [zwi hx]
  by_cases h : x < 0
  · rw [if_pos h]; omega
  · rw [if_neg h]; omega
theorem zi_shl1 {y : Int} (h : 0 ≤ y ∧ y ≤ 6) : 1 ≤ zi_shl 1 y ∧ zi_shl 1 y ≤ 64 := by
  have key : ∀ n : Fin 7, 1 ≤ zi_shl 1 (n.val : Int) ∧ zi_shl 1 (n.val : Int) ≤ 64 := by decide +kernel
  have h1 := key ⟨y.toNat, by omega⟩
  have h2 : ((y.toNat : Nat) : Int) = y := by omega
  dsimp only at h1
  rw [h2] at h1
  exact h1
theorem zu_mono {a f : Nat → Int} {i : Nat} {v : Int} (h : a = zu f i v) (hv : f i ≤ v) : ∀ j, f j ≤ a j := fun j => by
  rw [h]
  unfold zu
  by_cases q : j = i
  · rw [if_pos q, q]; exact hv
  · rw [if_neg q]; exact Int.le_refl _
theorem zu_back4 (h g1 g2 g3 g4 : Nat → Int) (i j : Nat) (e1 : g1 = zu h i (h i - 1)) (e2 : g2 = zu g1 j (g1 j + 1)) (e3 : g3 = zu g2 i (g2 i + 1)) (e4 : g4 = zu g3 j (g3 j - 1)) : g4 = h := by
  funext k
  by_cases c : i = j
  · subst c
    have a1 := zu_rd e1 i
    have a2 := zu_rd e2 i
    have a3 := zu_rd e3 i
    have b1 := zu_rd e1 k
    have b2 := zu_rd e2 k
    have b3 := zu_rd e3 k
    have b4 := zu_rd e4 k
    by_cases q : k = i
    · subst q; omega
    · omega
  · have a1 := zu_rd e1 i
    have a2 := zu_rd e2 i
    have c1 := zu_rd e1 j
    have c2 := zu_rd e2 j
    have c3 := zu_rd e3 j
    have b1 := zu_rd e1 k
    have b2 := zu_rd e2 k
    have b3 := zu_rd e3 k
    have b4 := zu_rd e4 k
    by_cases q : k = i
    · subst q; omega
    · by_cases q2 : k = j
      · subst q2; omega
      · omega
theorem zu_back (h : Nat → Int) (i j : Nat) : zu (zu (zu (zu h i (h i - 1)) j (zu h i (h i - 1) j + 1)) i (zu (zu h i (h i - 1)) j (zu h i (h i - 1) j + 1) i + 1)) j (zu (zu (zu h i (h i - 1)) j (zu h i (h i - 1) j + 1)) i (zu (zu h i (h i - 1)) j (zu h i (h i - 1) j + 1) i + 1) j - 1) = h :=
  zu_back4 h _ _ _ _ i j rfl rfl rfl rfl
theorem zgD {α : Type} (l : List α) (i : Nat) (d : α) (h : l.length ≤ i) : l.getD i d = d := by
  show (l[i]?).getD d = d
  rw [List.getElem?_eq_none h]
  rfl
theorem zk_r (i j : Nat) : 0 ≤ zk i j ∧ zk i j ≤ 99 := by
  have key : ∀ a : Fin 3, ∀ b : Fin 4, 0 ≤ (zcst.getD a.val []).getD b.val 0 ∧ (zcst.getD a.val []).getD b.val 0 ≤ 99 := by decide +kernel
  have kl : ∀ a : Fin 3, (zcst.getD a.val []).length = 4 := by decide +kernel
  unfold zk
  by_cases h : i < 3
  · by_cases g : j < 4
    · exact key ⟨i, h⟩ ⟨j, g⟩
    · have e : (zcst.getD i []).getD j 0 = 0 := by
        have := kl ⟨i, h⟩
        dsimp only at this
        exact zgD _ _ _ (by omega)
      rw [e]; decide
  · have e : zcst.getD i [] = [] := zgD _ _ _ (by have : zcst.length = 3 := rfl; omega)
    rw [e]
    exact ⟨by simp, by simp⟩
theorem zi_max_i (x y : Int) : -2147483648 ≤ zi_max x y ∧ zi_max x y ≤ 2147483647 := by
  have h1 := zi_r x
  have h2 := zi_r y
  unfold zi_max
  split <;> assumption
theorem zi_min_i (x y : Int) : -2147483648 ≤ zi_min x y ∧ zi_min x y ≤ 2147483647 := by
  have h1 := zi_r x
  have h2 := zi_r y
  unfold zi_min
  split <;> assumption
theorem zi_rem_f (x y : Int) : -2147483648 ≤ zi_rem x y ∧ zi_rem x y ≤ 2147483647 := zi_I _
theorem zi_div_f (x y : Int) : -2147483648 ≤ zi_div x y ∧ zi_div x y ≤ 2147483647 := zi_I _
theorem zl_div_f (x y : Int) : -9223372036854775808 ≤ zl_div x y ∧ zl_div x y ≤ 9223372036854775807 := zl_I _
theorem zl_rem_f (x y : Int) : -9223372036854775808 ≤ zl_rem x y ∧ zl_rem x y ≤ 9223372036854775807 := zl_I _
theorem zsl_f (w : Nat) : 0 ≤ zsl w ∧ zsl w ≤ 8 := by
  have key : ∀ a : Fin 14, 0 ≤ (zlen.getD a.val 0) ∧ (zlen.getD a.val 0) ≤ 8 := by decide +kernel
  unfold zsl
  by_cases h : w < 14
  · have := key ⟨w, h⟩
    dsimp only at this
    omega
  · rw [zgD _ _ _ (by have : zlen.length = 14 := rfl; omega)]
    decide
theorem zi_shr_k {x : Int} (k : Nat) (c : Int) (hk : k < 32) (hc : c = ((2 ^ k : Nat) : Int)) (hx : -2147483648 ≤ x ∧ x ≤ 2147483647) : zi_shr x (k : Int) = x / c := by
  have key : ∀ j : Fin 32, ((Int32.ofInt (j.val : Int) &&& 31).toBitVec.smod 32).toNat = j.val := by decide +kernel
  have k1 := key ⟨k, hk⟩
  dsimp only at k1
  have e1 : (Int32.ofInt x).toBitVec.toInt = x := zwi hx
  have e : zi_shr x (k : Int) = ((Int32.ofInt x).toBitVec.sshiftRight' ((Int32.ofInt (k : Int) &&& 31).toBitVec.smod 32)).toInt := rfl
  rw [e, BitVec.sshiftRight', BitVec.toInt_sshiftRight, k1, e1, Int.shiftRight_eq_div_pow, hc]
theorem zl_ushr50 (x : Int) : 0 ≤ zl_ushr x 50 ∧ zl_ushr x 50 ≤ 16383 := by
  have e : zl_ushr x 50 = ((Int64.ofInt x).toUInt64 >>> ((Int32.ofInt 50).toInt64.toUInt64 &&& Int64.toUInt64 63)).toBitVec.toInt := rfl
  have e2 : ((Int32.ofInt 50).toInt64.toUInt64 &&& Int64.toUInt64 63) = 50 := by decide +kernel
  have h : ((Int64.ofInt x).toUInt64 >>> (50 : UInt64)).toBitVec.toNat < 16384 := by
    show ((Int64.ofInt x).toUInt64 >>> (50 : UInt64)).toNat < 16384
    rw [UInt64.toNat_shiftRight]
    have h1 := (Int64.ofInt x).toUInt64.toNat_lt
    have h2 : (50 : UInt64).toNat % 64 = 50 := by decide
    rw [h2, Nat.shiftRight_eq_div_pow]
    omega
  rw [e, e2, BitVec.toInt_eq_toNat_cond]
  split <;> omega
theorem ztm (X : Int) {y : Int} (hy : 0 < y) : X - X.tdiv y * y = X.tmod y ∧ -y < X.tmod y ∧ X.tmod y < y := by
  have q4 : X.tmod y = X - y * X.tdiv y := Int.tmod_def _ _
  have q5 : (X.tmod y).natAbs = X.natAbs % y.natAbs := Int.natAbs_tmod ..
  have q6 : X.natAbs % y.natAbs < y.natAbs := Nat.mod_lt _ (by omega)
  rw [Int.mul_comm] at q4
  omega
theorem zl_rem_g (x : Int) {y : Int} (hy : 0 < y ∧ y ≤ 9223372036854775807) : -y < zl_rem x y ∧ zl_rem x y < y := by
  have e1 : (Int64.ofInt x).toInt = zl_w x := rfl
  have e2 : (Int64.ofInt y).toInt = y := zwl (by omega)
  have h := ztm (zl_w x) hy.1
  have r1 : zl_rem x y = (zl_w x).tmod y := by
    unfold zl_rem
    rw [Int64.toInt_sub, Int64.toInt_mul, Int64.toInt_div, e1, e2]
    rw [Int.bmod_mul_bmod, Int.sub_bmod_bmod, h.1]
    exact zbl (by omega)
  rw [r1]
  exact h.2
theorem zi_rem_g (x : Int) {y : Int} (hy : 0 < y ∧ y ≤ 2147483647) : -y < zi_rem x y ∧ zi_rem x y < y := by
  have e1 : (Int32.ofInt x).toInt = zi_w x := rfl
  have e2 : (Int32.ofInt y).toInt = y := zwi (by omega)
  have h := ztm (zi_w x) hy.1
  have r1 : zi_rem x y = (zi_w x).tmod y := by
    unfold zi_rem
    rw [Int32.toInt_sub, Int32.toInt_mul, Int32.toInt_div, e1, e2]
    rw [Int.bmod_mul_bmod, Int.sub_bmod_bmod, h.1]
    exact zbm (by omega)
  rw [r1]
  exact h.2
theorem zi_or6 {a b : Int} (ha : 0 ≤ a ∧ a ≤ 63) (hb : 0 ≤ b ∧ b ≤ 63) : 0 ≤ zi_or a b ∧ zi_or a b ≤ 63 := by
  have key : ∀ i j : Fin 64, 0 ≤ zi_or (i.val : Int) (j.val : Int) ∧ zi_or (i.val : Int) (j.val : Int) ≤ 63 := by decide +kernel
  have h := key ⟨a.toNat, by omega⟩ ⟨b.toNat, by omega⟩
  have e1 : ((a.toNat : Nat) : Int) = a := by omega
  have e2 : ((b.toNat : Nat) : Int) = b := by omega
  dsimp only at h
  rw [e1, e2] at h
  exact h
theorem zemod (a : Int) {w : Int} (h : 0 < w) : 0 ≤ a % w ∧ a % w < w := ⟨Int.emod_nonneg a (by omega), Int.emod_lt_of_pos a h⟩
theorem zk_d1 {α1 β : Type} {o : Option (α1)} {k : α1 → Option β} {Q : α1 → Prop} {P : β → Prop} (h : zok o Q) (hk : ∀ a1, Q (a1) → zok (k a1) P) : zok (zd1 o k) P := by
  obtain ⟨t, e, q⟩ := h
  unfold zd1
  rw [e]
  exact hk _ q
theorem zk_d2 {α1 α2 β : Type} {o : Option (α1 × α2)} {k : α1 → α2 → Option β} {Q : (α1 × α2) → Prop} {P : β → Prop} (h : zok o Q) (hk : ∀ a1 a2, Q (a1, a2) → zok (k a1 a2) P) : zok (zd2 o k) P := by
  obtain ⟨t, e, q⟩ := h
  unfold zd2
  rw [e]
  exact hk _ _ q
theorem zk_d3 {α1 α2 α3 β : Type} {o : Option (α1 × α2 × α3)} {k : α1 → α2 → α3 → Option β} {Q : (α1 × α2 × α3) → Prop} {P : β → Prop} (h : zok o Q) (hk : ∀ a1 a2 a3, Q (a1, a2, a3) → zok (k a1 a2 a3) P) : zok (zd3 o k) P := by
  obtain ⟨t, e, q⟩ := h
  unfold zd3
  rw [e]
  exact hk _ _ _ q
theorem zk_d4 {α1 α2 α3 α4 β : Type} {o : Option (α1 × α2 × α3 × α4)} {k : α1 → α2 → α3 → α4 → Option β} {Q : (α1 × α2 × α3 × α4) → Prop} {P : β → Prop} (h : zok o Q) (hk : ∀ a1 a2 a3 a4, Q (a1, a2, a3, a4) → zok (k a1 a2 a3 a4) P) : zok (zd4 o k) P := by
  obtain ⟨t, e, q⟩ := h
  unfold zd4
  rw [e]
  exact hk _ _ _ _ q
theorem zk_d5 {α1 α2 α3 α4 α5 β : Type} {o : Option (α1 × α2 × α3 × α4 × α5)} {k : α1 → α2 → α3 → α4 → α5 → Option β} {Q : (α1 × α2 × α3 × α4 × α5) → Prop} {P : β → Prop} (h : zok o Q) (hk : ∀ a1 a2 a3 a4 a5, Q (a1, a2, a3, a4, a5) → zok (k a1 a2 a3 a4 a5) P) : zok (zd5 o k) P := by
  obtain ⟨t, e, q⟩ := h
  unfold zd5
  rw [e]
  exact hk _ _ _ _ _ q
theorem zk_d6 {α1 α2 α3 α4 α5 α6 β : Type} {o : Option (α1 × α2 × α3 × α4 × α5 × α6)} {k : α1 → α2 → α3 → α4 → α5 → α6 → Option β} {Q : (α1 × α2 × α3 × α4 × α5 × α6) → Prop} {P : β → Prop} (h : zok o Q) (hk : ∀ a1 a2 a3 a4 a5 a6, Q (a1, a2, a3, a4, a5, a6) → zok (k a1 a2 a3 a4 a5 a6) P) : zok (zd6 o k) P := by
  obtain ⟨t, e, q⟩ := h
  unfold zd6
  rw [e]
  exact hk _ _ _ _ _ _ q
theorem zk_d7 {α1 α2 α3 α4 α5 α6 α7 β : Type} {o : Option (α1 × α2 × α3 × α4 × α5 × α6 × α7)} {k : α1 → α2 → α3 → α4 → α5 → α6 → α7 → Option β} {Q : (α1 × α2 × α3 × α4 × α5 × α6 × α7) → Prop} {P : β → Prop} (h : zok o Q) (hk : ∀ a1 a2 a3 a4 a5 a6 a7, Q (a1, a2, a3, a4, a5, a6, a7) → zok (k a1 a2 a3 a4 a5 a6 a7) P) : zok (zd7 o k) P := by
  obtain ⟨t, e, q⟩ := h
  unfold zd7
  rw [e]
  exact hk _ _ _ _ _ _ _ q
theorem zk_d8 {α1 α2 α3 α4 α5 α6 α7 α8 β : Type} {o : Option (α1 × α2 × α3 × α4 × α5 × α6 × α7 × α8)} {k : α1 → α2 → α3 → α4 → α5 → α6 → α7 → α8 → Option β} {Q : (α1 × α2 × α3 × α4 × α5 × α6 × α7 × α8) → Prop} {P : β → Prop} (h : zok o Q) (hk : ∀ a1 a2 a3 a4 a5 a6 a7 a8, Q (a1, a2, a3, a4, a5, a6, a7, a8) → zok (k a1 a2 a3 a4 a5 a6 a7 a8) P) : zok (zd8 o k) P := by
  obtain ⟨t, e, q⟩ := h
  unfold zd8
  rw [e]
  exact hk _ _ _ _ _ _ _ _ q
theorem zk_d9 {α1 α2 α3 α4 α5 α6 α7 α8 α9 β : Type} {o : Option (α1 × α2 × α3 × α4 × α5 × α6 × α7 × α8 × α9)} {k : α1 → α2 → α3 → α4 → α5 → α6 → α7 → α8 → α9 → Option β} {Q : (α1 × α2 × α3 × α4 × α5 × α6 × α7 × α8 × α9) → Prop} {P : β → Prop} (h : zok o Q) (hk : ∀ a1 a2 a3 a4 a5 a6 a7 a8 a9, Q (a1, a2, a3, a4, a5, a6, a7, a8, a9) → zok (k a1 a2 a3 a4 a5 a6 a7 a8 a9) P) : zok (zd9 o k) P := by
  obtain ⟨t, e, q⟩ := h
  unfold zd9
  rw [e]
  exact hk _ _ _ _ _ _ _ _ _ q
theorem zk_d10 {α1 α2 α3 α4 α5 α6 α7 α8 α9 α10 β : Type} {o : Option (α1 × α2 × α3 × α4 × α5 × α6 × α7 × α8 × α9 × α10)} {k : α1 → α2 → α3 → α4 → α5 → α6 → α7 → α8 → α9 → α10 → Option β} {Q : (α1 × α2 × α3 × α4 × α5 × α6 × α7 × α8 × α9 × α10) → Prop} {P : β → Prop} (h : zok o Q) (hk : ∀ a1 a2 a3 a4 a5 a6 a7 a8 a9 a10, Q (a1, a2, a3, a4, a5, a6, a7, a8, a9, a10) → zok (k a1 a2 a3 a4 a5 a6 a7 a8 a9 a10) P) : zok (zd10 o k) P := by
  obtain ⟨t, e, q⟩ := h
  unfold zd10
  rw [e]
  exact hk _ _ _ _ _ _ _ _ _ _ q
theorem zk_d11 {α1 α2 α3 α4 α5 α6 α7 α8 α9 α10 α11 β : Type} {o : Option (α1 × α2 × α3 × α4 × α5 × α6 × α7 × α8 × α9 × α10 × α11)} {k : α1 → α2 → α3 → α4 → α5 → α6 → α7 → α8 → α9 → α10 → α11 → Option β} {Q : (α1 × α2 × α3 × α4 × α5 × α6 × α7 × α8 × α9 × α10 × α11) → Prop} {P : β → Prop} (h : zok o Q) (hk : ∀ a1 a2 a3 a4 a5 a6 a7 a8 a9 a10 a11, Q (a1, a2, a3, a4, a5, a6, a7, a8, a9, a10, a11) → zok (k a1 a2 a3 a4 a5 a6 a7 a8 a9 a10 a11) P) : zok (zd11 o k) P := by
  obtain ⟨t, e, q⟩ := h
  unfold zd11
  rw [e]
  exact hk _ _ _ _ _ _ _ _ _ _ _ q
theorem zk_d12 {α1 α2 α3 α4 α5 α6 α7 α8 α9 α10 α11 α12 β : Type} {o : Option (α1 × α2 × α3 × α4 × α5 × α6 × α7 × α8 × α9 × α10 × α11 × α12)} {k : α1 → α2 → α3 → α4 → α5 → α6 → α7 → α8 → α9 → α10 → α11 → α12 → Option β} {Q : (α1 × α2 × α3 × α4 × α5 × α6 × α7 × α8 × α9 × α10 × α11 × α12) → Prop} {P : β → Prop} (h : zok o Q) (hk : ∀ a1 a2 a3 a4 a5 a6 a7 a8 a9 a10 a11 a12, Q (a1, a2, a3, a4, a5, a6, a7, a8, a9, a10, a11, a12) → zok (k a1 a2 a3 a4 a5 a6 a7 a8 a9 a10 a11 a12) P) : zok (zd12 o k) P := by
  obtain ⟨t, e, q⟩ := h
  unfold zd12
  rw [e]
  exact hk _ _ _ _ _ _ _ _ _ _ _ _ q
theorem zk_d13 {α1 α2 α3 α4 α5 α6 α7 α8 α9 α10 α11 α12 α13 β : Type} {o : Option (α1 × α2 × α3 × α4 × α5 × α6 × α7 × α8 × α9 × α10 × α11 × α12 × α13)} {k : α1 → α2 → α3 → α4 → α5 → α6 → α7 → α8 → α9 → α10 → α11 → α12 → α13 → Option β} {Q : (α1 × α2 × α3 × α4 × α5 × α6 × α7 × α8 × α9 × α10 × α11 × α12 × α13) → Prop} {P : β → Prop} (h : zok o Q) (hk : ∀ a1 a2 a3 a4 a5 a6 a7 a8 a9 a10 a11 a12 a13, Q (a1, a2, a3, a4, a5, a6, a7, a8, a9, a10, a11, a12, a13) → zok (k a1 a2 a3 a4 a5 a6 a7 a8 a9 a10 a11 a12 a13) P) : zok (zd13 o k) P := by
  obtain ⟨t, e, q⟩ := h
  unfold zd13
  rw [e]
  exact hk _ _ _ _ _ _ _ _ _ _ _ _ _ q
theorem zk_d14 {α1 α2 α3 α4 α5 α6 α7 α8 α9 α10 α11 α12 α13 α14 β : Type} {o : Option (α1 × α2 × α3 × α4 × α5 × α6 × α7 × α8 × α9 × α10 × α11 × α12 × α13 × α14)} {k : α1 → α2 → α3 → α4 → α5 → α6 → α7 → α8 → α9 → α10 → α11 → α12 → α13 → α14 → Option β} {Q : (α1 × α2 × α3 × α4 × α5 × α6 × α7 × α8 × α9 × α10 × α11 × α12 × α13 × α14) → Prop} {P : β → Prop} (h : zok o Q) (hk : ∀ a1 a2 a3 a4 a5 a6 a7 a8 a9 a10 a11 a12 a13 a14, Q (a1, a2, a3, a4, a5, a6, a7, a8, a9, a10, a11, a12, a13, a14) → zok (k a1 a2 a3 a4 a5 a6 a7 a8 a9 a10 a11 a12 a13 a14) P) : zok (zd14 o k) P := by
  obtain ⟨t, e, q⟩ := h
  unfold zd14
  rw [e]
  exact hk _ _ _ _ _ _ _ _ _ _ _ _ _ _ q
theorem zk_d15 {α1 α2 α3 α4 α5 α6 α7 α8 α9 α10 α11 α12 α13 α14 α15 β : Type} {o : Option (α1 × α2 × α3 × α4 × α5 × α6 × α7 × α8 × α9 × α10 × α11 × α12 × α13 × α14 × α15)} {k : α1 → α2 → α3 → α4 → α5 → α6 → α7 → α8 → α9 → α10 → α11 → α12 → α13 → α14 → α15 → Option β} {Q : (α1 × α2 × α3 × α4 × α5 × α6 × α7 × α8 × α9 × α10 × α11 × α12 × α13 × α14 × α15) → Prop} {P : β → Prop} (h : zok o Q) (hk : ∀ a1 a2 a3 a4 a5 a6 a7 a8 a9 a10 a11 a12 a13 a14 a15, Q (a1, a2, a3, a4, a5, a6, a7, a8, a9, a10, a11, a12, a13, a14, a15) → zok (k a1 a2 a3 a4 a5 a6 a7 a8 a9 a10 a11 a12 a13 a14 a15) P) : zok (zd15 o k) P := by
  obtain ⟨t, e, q⟩ := h
  unfold zd15
  rw [e]
  exact hk _ _ _ _ _ _ _ _ _ _ _ _ _ _ _ q
theorem zk_d16 {α1 α2 α3 α4 α5 α6 α7 α8 α9 α10 α11 α12 α13 α14 α15 α16 β : Type} {o : Option (α1 × α2 × α3 × α4 × α5 × α6 × α7 × α8 × α9 × α10 × α11 × α12 × α13 × α14 × α15 × α16)} {k : α1 → α2 → α3 → α4 → α5 → α6 → α7 → α8 → α9 → α10 → α11 → α12 → α13 → α14 → α15 → α16 → Option β} {Q : (α1 × α2 × α3 × α4 × α5 × α6 × α7 × α8 × α9 × α10 × α11 × α12 × α13 × α14 × α15 × α16) → Prop} {P : β → Prop} (h : zok o Q) (hk : ∀ a1 a2 a3 a4 a5 a6 a7 a8 a9 a10 a11 a12 a13 a14 a15 a16, Q (a1, a2, a3, a4, a5, a6, a7, a8, a9, a10, a11, a12, a13, a14, a15, a16) → zok (k a1 a2 a3 a4 a5 a6 a7 a8 a9 a10 a11 a12 a13 a14 a15 a16) P) : zok (zd16 o k) P := by
  obtain ⟨t, e, q⟩ := h
  unfold zd16
  rw [e]
  exact hk _ _ _ _ _ _ _ _ _ _ _ _ _ _ _ _ q
theorem zk_d17 {α1 α2 α3 α4 α5 α6 α7 α8 α9 α10 α11 α12 α13 α14 α15 α16 α17 β : Type} {o : Option (α1 × α2 × α3 × α4 × α5 × α6 × α7 × α8 × α9 × α10 × α11 × α12 × α13 × α14 × α15 × α16 × α17)} {k : α1 → α2 → α3 → α4 → α5 → α6 → α7 → α8 → α9 → α10 → α11 → α12 → α13 → α14 → α15 → α16 → α17 → Option β} {Q : (α1 × α2 × α3 × α4 × α5 × α6 × α7 × α8 × α9 × α10 × α11 × α12 × α13 × α14 × α15 × α16 × α17) → Prop} {P : β → Prop} (h : zok o Q) (hk : ∀ a1 a2 a3 a4 a5 a6 a7 a8 a9 a10 a11 a12 a13 a14 a15 a16 a17, Q (a1, a2, a3, a4, a5, a6, a7, a8, a9, a10, a11, a12, a13, a14, a15, a16, a17) → zok (k a1 a2 a3 a4 a5 a6 a7 a8 a9 a10 a11 a12 a13 a14 a15 a16 a17) P) : zok (zd17 o k) P := by
  obtain ⟨t, e, q⟩ := h
  unfold zd17
  rw [e]
  exact hk _ _ _ _ _ _ _ _ _ _ _ _ _ _ _ _ _ q
theorem zk_d18 {α1 α2 α3 α4 α5 α6 α7 α8 α9 α10 α11 α12 α13 α14 α15 α16 α17 α18 β : Type} {o : Option (α1 × α2 × α3 × α4 × α5 × α6 × α7 × α8 × α9 × α10 × α11 × α12 × α13 × α14 × α15 × α16 × α17 × α18)} {k : α1 → α2 → α3 → α4 → α5 → α6 → α7 → α8 → α9 → α10 → α11 → α12 → α13 → α14 → α15 → α16 → α17 → α18 → Option β} {Q : (α1 × α2 × α3 × α4 × α5 × α6 × α7 × α8 × α9 × α10 × α11 × α12 × α13 × α14 × α15 × α16 × α17 × α18) → Prop} {P : β → Prop} (h : zok o Q) (hk : ∀ a1 a2 a3 a4 a5 a6 a7 a8 a9 a10 a11 a12 a13 a14 a15 a16 a17 a18, Q (a1, a2, a3, a4, a5, a6, a7, a8, a9, a10, a11, a12, a13, a14, a15, a16, a17, a18) → zok (k a1 a2 a3 a4 a5 a6 a7 a8 a9 a10 a11 a12 a13 a14 a15 a16 a17 a18) P) : zok (zd18 o k) P := by
  obtain ⟨t, e, q⟩ := h
  unfold zd18
  rw [e]
  exact hk _ _ _ _ _ _ _ _ _ _ _ _ _ _ _ _ _ _ q
theorem zk_d19 {α1 α2 α3 α4 α5 α6 α7 α8 α9 α10 α11 α12 α13 α14 α15 α16 α17 α18 α19 β : Type} {o : Option (α1 × α2 × α3 × α4 × α5 × α6 × α7 × α8 × α9 × α10 × α11 × α12 × α13 × α14 × α15 × α16 × α17 × α18 × α19)} {k : α1 → α2 → α3 → α4 → α5 → α6 → α7 → α8 → α9 → α10 → α11 → α12 → α13 → α14 → α15 → α16 → α17 → α18 → α19 → Option β} {Q : (α1 × α2 × α3 × α4 × α5 × α6 × α7 × α8 × α9 × α10 × α11 × α12 × α13 × α14 × α15 × α16 × α17 × α18 × α19) → Prop} {P : β → Prop} (h : zok o Q) (hk : ∀ a1 a2 a3 a4 a5 a6 a7 a8 a9 a10 a11 a12 a13 a14 a15 a16 a17 a18 a19, Q (a1, a2, a3, a4, a5, a6, a7, a8, a9, a10, a11, a12, a13, a14, a15, a16, a17, a18, a19) → zok (k a1 a2 a3 a4 a5 a6 a7 a8 a9 a10 a11 a12 a13 a14 a15 a16 a17 a18 a19) P) : zok (zd19 o k) P := by
  obtain ⟨t, e, q⟩ := h
  unfold zd19
  rw [e]
  exact hk _ _ _ _ _ _ _ _ _ _ _ _ _ _ _ _ _ _ _ q
theorem zk_d20 {α1 α2 α3 α4 α5 α6 α7 α8 α9 α10 α11 α12 α13 α14 α15 α16 α17 α18 α19 α20 β : Type} {o : Option (α1 × α2 × α3 × α4 × α5 × α6 × α7 × α8 × α9 × α10 × α11 × α12 × α13 × α14 × α15 × α16 × α17 × α18 × α19 × α20)} {k : α1 → α2 → α3 → α4 → α5 → α6 → α7 → α8 → α9 → α10 → α11 → α12 → α13 → α14 → α15 → α16 → α17 → α18 → α19 → α20 → Option β} {Q : (α1 × α2 × α3 × α4 × α5 × α6 × α7 × α8 × α9 × α10 × α11 × α12 × α13 × α14 × α15 × α16 × α17 × α18 × α19 × α20) → Prop} {P : β → Prop} (h : zok o Q) (hk : ∀ a1 a2 a3 a4 a5 a6 a7 a8 a9 a10 a11 a12 a13 a14 a15 a16 a17 a18 a19 a20, Q (a1, a2, a3, a4, a5, a6, a7, a8, a9, a10, a11, a12, a13, a14, a15, a16, a17, a18, a19, a20) → zok (k a1 a2 a3 a4 a5 a6 a7 a8 a9 a10 a11 a12 a13 a14 a15 a16 a17 a18 a19 a20) P) : zok (zd20 o k) P := by
  obtain ⟨t, e, q⟩ := h
  unfold zd20
  rw [e]
  exact hk _ _ _ _ _ _ _ _ _ _ _ _ _ _ _ _ _ _ _ _ q
theorem zk_d21 {α1 α2 α3 α4 α5 α6 α7 α8 α9 α10 α11 α12 α13 α14 α15 α16 α17 α18 α19 α20 α21 β : Type} {o : Option (α1 × α2 × α3 × α4 × α5 × α6 × α7 × α8 × α9 × α10 × α11 × α12 × α13 × α14 × α15 × α16 × α17 × α18 × α19 × α20 × α21)} {k : α1 → α2 → α3 → α4 → α5 → α6 → α7 → α8 → α9 → α10 → α11 → α12 → α13 → α14 → α15 → α16 → α17 → α18 → α19 → α20 → α21 → Option β} {Q : (α1 × α2 × α3 × α4 × α5 × α6 × α7 × α8 × α9 × α10 × α11 × α12 × α13 × α14 × α15 × α16 × α17 × α18 × α19 × α20 × α21) → Prop} {P : β → Prop} (h : zok o Q) (hk : ∀ a1 a2 a3 a4 a5 a6 a7 a8 a9 a10 a11 a12 a13 a14 a15 a16 a17 a18 a19 a20 a21, Q (a1, a2, a3, a4, a5, a6, a7, a8, a9, a10, a11, a12, a13, a14, a15, a16, a17, a18, a19, a20, a21) → zok (k a1 a2 a3 a4 a5 a6 a7 a8 a9 a10 a11 a12 a13 a14 a15 a16 a17 a18 a19 a20 a21) P) : zok (zd21 o k) P := by
  obtain ⟨t, e, q⟩ := h
  unfold zd21
  rw [e]
  exact hk _ _ _ _ _ _ _ _ _ _ _ _ _ _ _ _ _ _ _ _ _ q
theorem zk_d22 {α1 α2 α3 α4 α5 α6 α7 α8 α9 α10 α11 α12 α13 α14 α15 α16 α17 α18 α19 α20 α21 α22 β : Type} {o : Option (α1 × α2 × α3 × α4 × α5 × α6 × α7 × α8 × α9 × α10 × α11 × α12 × α13 × α14 × α15 × α16 × α17 × α18 × α19 × α20 × α21 × α22)} {k : α1 → α2 → α3 → α4 → α5 → α6 → α7 → α8 → α9 → α10 → α11 → α12 → α13 → α14 → α15 → α16 → α17 → α18 → α19 → α20 → α21 → α22 → Option β} {Q : (α1 × α2 × α3 × α4 × α5 × α6 × α7 × α8 × α9 × α10 × α11 × α12 × α13 × α14 × α15 × α16 × α17 × α18 × α19 × α20 × α21 × α22) → Prop} {P : β → Prop} (h : zok o Q) (hk : ∀ a1 a2 a3 a4 a5 a6 a7 a8 a9 a10 a11 a12 a13 a14 a15 a16 a17 a18 a19 a20 a21 a22, Q (a1, a2, a3, a4, a5, a6, a7, a8, a9, a10, a11, a12, a13, a14, a15, a16, a17, a18, a19, a20, a21, a22) → zok (k a1 a2 a3 a4 a5 a6 a7 a8 a9 a10 a11 a12 a13 a14 a15 a16 a17 a18 a19 a20 a21 a22) P) : zok (zd22 o k) P := by
  obtain ⟨t, e, q⟩ := h
  unfold zd22
  rw [e]
  exact hk _ _ _ _ _ _ _ _ _ _ _ _ _ _ _ _ _ _ _ _ _ _ q
theorem zk_d23 {α1 α2 α3 α4 α5 α6 α7 α8 α9 α10 α11 α12 α13 α14 α15 α16 α17 α18 α19 α20 α21 α22 α23 β : Type} {o : Option (α1 × α2 × α3 × α4 × α5 × α6 × α7 × α8 × α9 × α10 × α11 × α12 × α13 × α14 × α15 × α16 × α17 × α18 × α19 × α20 × α21 × α22 × α23)} {k : α1 → α2 → α3 → α4 → α5 → α6 → α7 → α8 → α9 → α10 → α11 → α12 → α13 → α14 → α15 → α16 → α17 → α18 → α19 → α20 → α21 → α22 → α23 → Option β} {Q : (α1 × α2 × α3 × α4 × α5 × α6 × α7 × α8 × α9 × α10 × α11 × α12 × α13 × α14 × α15 × α16 × α17 × α18 × α19 × α20 × α21 × α22 × α23) → Prop} {P : β → Prop} (h : zok o Q) (hk : ∀ a1 a2 a3 a4 a5 a6 a7 a8 a9 a10 a11 a12 a13 a14 a15 a16 a17 a18 a19 a20 a21 a22 a23, Q (a1, a2, a3, a4, a5, a6, a7, a8, a9, a10, a11, a12, a13, a14, a15, a16, a17, a18, a19, a20, a21, a22, a23) → zok (k a1 a2 a3 a4 a5 a6 a7 a8 a9 a10 a11 a12 a13 a14 a15 a16 a17 a18 a19 a20 a21 a22 a23) P) : zok (zd23 o k) P := by
  obtain ⟨t, e, q⟩ := h
  unfold zd23
  rw [e]
  exact hk _ _ _ _ _ _ _ _ _ _ _ _ _ _ _ _ _ _ _ _ _ _ _ q
theorem zk_d24 {α1 α2 α3 α4 α5 α6 α7 α8 α9 α10 α11 α12 α13 α14 α15 α16 α17 α18 α19 α20 α21 α22 α23 α24 β : Type} {o : Option (α1 × α2 × α3 × α4 × α5 × α6 × α7 × α8 × α9 × α10 × α11 × α12 × α13 × α14 × α15 × α16 × α17 × α18 × α19 × α20 × α21 × α22 × α23 × α24)} {k : α1 → α2 → α3 → α4 → α5 → α6 → α7 → α8 → α9 → α10 → α11 → α12 → α13 → α14 → α15 → α16 → α17 → α18 → α19 → α20 → α21 → α22 → α23 → α24 → Option β} {Q : (α1 × α2 × α3 × α4 × α5 × α6 × α7 × α8 × α9 × α10 × α11 × α12 × α13 × α14 × α15 × α16 × α17 × α18 × α19 × α20 × α21 × α22 × α23 × α24) → Prop} {P : β → Prop} (h : zok o Q) (hk : ∀ a1 a2 a3 a4 a5 a6 a7 a8 a9 a10 a11 a12 a13 a14 a15 a16 a17 a18 a19 a20 a21 a22 a23 a24, Q (a1, a2, a3, a4, a5, a6, a7, a8, a9, a10, a11, a12, a13, a14, a15, a16, a17, a18, a19, a20, a21, a22, a23, a24) → zok (k a1 a2 a3 a4 a5 a6 a7 a8 a9 a10 a11 a12 a13 a14 a15 a16 a17 a18 a19 a20 a21 a22 a23 a24) P) : zok (zd24 o k) P := by
  obtain ⟨t, e, q⟩ := h
  unfold zd24
  rw [e]
  exact hk _ _ _ _ _ _ _ _ _ _ _ _ _ _ _ _ _ _ _ _ _ _ _ _ q
theorem zk_d25 {α1 α2 α3 α4 α5 α6 α7 α8 α9 α10 α11 α12 α13 α14 α15 α16 α17 α18 α19 α20 α21 α22 α23 α24 α25 β : Type} {o : Option (α1 × α2 × α3 × α4 × α5 × α6 × α7 × α8 × α9 × α10 × α11 × α12 × α13 × α14 × α15 × α16 × α17 × α18 × α19 × α20 × α21 × α22 × α23 × α24 × α25)} {k : α1 → α2 → α3 → α4 → α5 → α6 → α7 → α8 → α9 → α10 → α11 → α12 → α13 → α14 → α15 → α16 → α17 → α18 → α19 → α20 → α21 → α22 → α23 → α24 → α25 → Option β} {Q : (α1 × α2 × α3 × α4 × α5 × α6 × α7 × α8 × α9 × α10 × α11 × α12 × α13 × α14 × α15 × α16 × α17 × α18 × α19 × α20 × α21 × α22 × α23 × α24 × α25) → Prop} {P : β → Prop} (h : zok o Q) (hk : ∀ a1 a2 a3 a4 a5 a6 a7 a8 a9 a10 a11 a12 a13 a14 a15 a16 a17 a18 a19 a20 a21 a22 a23 a24 a25, Q (a1, a2, a3, a4, a5, a6, a7, a8, a9, a10, a11, a12, a13, a14, a15, a16, a17, a18, a19, a20, a21, a22, a23, a24, a25) → zok (k a1 a2 a3 a4 a5 a6 a7 a8 a9 a10 a11 a12 a13 a14 a15 a16 a17 a18 a19 a20 a21 a22 a23 a24 a25) P) : zok (zd25 o k) P := by
  obtain ⟨t, e, q⟩ := h
  unfold zd25
  rw [e]
  exact hk _ _ _ _ _ _ _ _ _ _ _ _ _ _ _ _ _ _ _ _ _ _ _ _ _ q
theorem zk_d26 {α1 α2 α3 α4 α5 α6 α7 α8 α9 α10 α11 α12 α13 α14 α15 α16 α17 α18 α19 α20 α21 α22 α23 α24 α25 α26 β : Type} {o : Option (α1 × α2 × α3 × α4 × α5 × α6 × α7 × α8 × α9 × α10 × α11 × α12 × α13 × α14 × α15 × α16 × α17 × α18 × α19 × α20 × α21 × α22 × α23 × α24 × α25 × α26)} {k : α1 → α2 → α3 → α4 → α5 → α6 → α7 → α8 → α9 → α10 → α11 → α12 → α13 → α14 → α15 → α16 → α17 → α18 → α19 → α20 → α21 → α22 → α23 → α24 → α25 → α26 → Option β} {Q : (α1 × α2 × α3 × α4 × α5 × α6 × α7 × α8 × α9 × α10 × α11 × α12 × α13 × α14 × α15 × α16 × α17 × α18 × α19 × α20 × α21 × α22 × α23 × α24 × α25 × α26) → Prop} {P : β → Prop} (h : zok o Q) (hk : ∀ a1 a2 a3 a4 a5 a6 a7 a8 a9 a10 a11 a12 a13 a14 a15 a16 a17 a18 a19 a20 a21 a22 a23 a24 a25 a26, Q (a1, a2, a3, a4, a5, a6, a7, a8, a9, a10, a11, a12, a13, a14, a15, a16, a17, a18, a19, a20, a21, a22, a23, a24, a25, a26) → zok (k a1 a2 a3 a4 a5 a6 a7 a8 a9 a10 a11 a12 a13 a14 a15 a16 a17 a18 a19 a20 a21 a22 a23 a24 a25 a26) P) : zok (zd26 o k) P := by
  obtain ⟨t, e, q⟩ := h
  unfold zd26
  rw [e]
  exact hk _ _ _ _ _ _ _ _ _ _ _ _ _ _ _ _ _ _ _ _ _ _ _ _ _ _ q
theorem zk_d27 {α1 α2 α3 α4 α5 α6 α7 α8 α9 α10 α11 α12 α13 α14 α15 α16 α17 α18 α19 α20 α21 α22 α23 α24 α25 α26 α27 β : Type} {o : Option (α1 × α2 × α3 × α4 × α5 × α6 × α7 × α8 × α9 × α10 × α11 × α12 × α13 × α14 × α15 × α16 × α17 × α18 × α19 × α20 × α21 × α22 × α23 × α24 × α25 × α26 × α27)} {k : α1 → α2 → α3 → α4 → α5 → α6 → α7 → α8 → α9 → α10 → α11 → α12 → α13 → α14 → α15 → α16 → α17 → α18 → α19 → α20 → α21 → α22 → α23 → α24 → α25 → α26 → α27 → Option β} {Q : (α1 × α2 × α3 × α4 × α5 × α6 × α7 × α8 × α9 × α10 × α11 × α12 × α13 × α14 × α15 × α16 × α17 × α18 × α19 × α20 × α21 × α22 × α23 × α24 × α25 × α26 × α27) → Prop} {P : β → Prop} (h : zok o Q) (hk : ∀ a1 a2 a3 a4 a5 a6 a7 a8 a9 a10 a11 a12 a13 a14 a15 a16 a17 a18 a19 a20 a21 a22 a23 a24 a25 a26 a27, Q (a1, a2, a3, a4, a5, a6, a7, a8, a9, a10, a11, a12, a13, a14, a15, a16, a17, a18, a19, a20, a21, a22, a23, a24, a25, a26, a27) → zok (k a1 a2 a3 a4 a5 a6 a7 a8 a9 a10 a11 a12 a13 a14 a15 a16 a17 a18 a19 a20 a21 a22 a23 a24 a25 a26 a27) P) : zok (zd27 o k) P := by
  obtain ⟨t, e, q⟩ := h
  unfold zd27
  rw [e]
  exact hk _ _ _ _ _ _ _ _ _ _ _ _ _ _ _ _ _ _ _ _ _ _ _ _ _ _ _ q
theorem zk_d28 {α1 α2 α3 α4 α5 α6 α7 α8 α9 α10 α11 α12 α13 α14 α15 α16 α17 α18 α19 α20 α21 α22 α23 α24 α25 α26 α27 α28 β : Type} {o : Option (α1 × α2 × α3 × α4 × α5 × α6 × α7 × α8 × α9 × α10 × α11 × α12 × α13 × α14 × α15 × α16 × α17 × α18 × α19 × α20 × α21 × α22 × α23 × α24 × α25 × α26 × α27 × α28)} {k : α1 → α2 → α3 → α4 → α5 → α6 → α7 → α8 → α9 → α10 → α11 → α12 → α13 → α14 → α15 → α16 → α17 → α18 → α19 → α20 → α21 → α22 → α23 → α24 → α25 → α26 → α27 → α28 → Option β} {Q : (α1 × α2 × α3 × α4 × α5 × α6 × α7 × α8 × α9 × α10 × α11 × α12 × α13 × α14 × α15 × α16 × α17 × α18 × α19 × α20 × α21 × α22 × α23 × α24 × α25 × α26 × α27 × α28) → Prop} {P : β → Prop} (h : zok o Q) (hk : ∀ a1 a2 a3 a4 a5 a6 a7 a8 a9 a10 a11 a12 a13 a14 a15 a16 a17 a18 a19 a20 a21 a22 a23 a24 a25 a26 a27 a28, Q (a1, a2, a3, a4, a5, a6, a7, a8, a9, a10, a11, a12, a13, a14, a15, a16, a17, a18, a19, a20, a21, a22, a23, a24, a25, a26, a27, a28) → zok (k a1 a2 a3 a4 a5 a6 a7 a8 a9 a10 a11 a12 a13 a14 a15 a16 a17 a18 a19 a20 a21 a22 a23 a24 a25 a26 a27 a28) P) : zok (zd28 o k) P := by
  obtain ⟨t, e, q⟩ := h
  unfold zd28
  rw [e]
  exact hk _ _ _ _ _ _ _ _ _ _ _ _ _ _ _ _ _ _ _ _ _ _ _ _ _ _ _ _ q
theorem zk_d29 {α1 α2 α3 α4 α5 α6 α7 α8 α9 α10 α11 α12 α13 α14 α15 α16 α17 α18 α19 α20 α21 α22 α23 α24 α25 α26 α27 α28 α29 β : Type} {o : Option (α1 × α2 × α3 × α4 × α5 × α6 × α7 × α8 × α9 × α10 × α11 × α12 × α13 × α14 × α15 × α16 × α17 × α18 × α19 × α20 × α21 × α22 × α23 × α24 × α25 × α26 × α27 × α28 × α29)} {k : α1 → α2 → α3 → α4 → α5 → α6 → α7 → α8 → α9 → α10 → α11 → α12 → α13 → α14 → α15 → α16 → α17 → α18 → α19 → α20 → α21 → α22 → α23 → α24 → α25 → α26 → α27 → α28 → α29 → Option β} {Q : (α1 × α2 × α3 × α4 × α5 × α6 × α7 × α8 × α9 × α10 × α11 × α12 × α13 × α14 × α15 × α16 × α17 × α18 × α19 × α20 × α21 × α22 × α23 × α24 × α25 × α26 × α27 × α28 × α29) → Prop} {P : β → Prop} (h : zok o Q) (hk : ∀ a1 a2 a3 a4 a5 a6 a7 a8 a9 a10 a11 a12 a13 a14 a15 a16 a17 a18 a19 a20 a21 a22 a23 a24 a25 a26 a27 a28 a29, Q (a1, a2, a3, a4, a5, a6, a7, a8, a9, a10, a11, a12, a13, a14, a15, a16, a17, a18, a19, a20, a21, a22, a23, a24, a25, a26, a27, a28, a29) → zok (k a1 a2 a3 a4 a5 a6 a7 a8 a9 a10 a11 a12 a13 a14 a15 a16 a17 a18 a19 a20 a21 a22 a23 a24 a25 a26 a27 a28 a29) P) : zok (zd29 o k) P := by
  obtain ⟨t, e, q⟩ := h
  unfold zd29
  rw [e]
  exact hk _ _ _ _ _ _ _ _ _ _ _ _ _ _ _ _ _ _ _ _ _ _ _ _ _ _ _ _ _ q
theorem zk_d30 {α1 α2 α3 α4 α5 α6 α7 α8 α9 α10 α11 α12 α13 α14 α15 α16 α17 α18 α19 α20 α21 α22 α23 α24 α25 α26 α27 α28 α29 α30 β : Type} {o : Option (α1 × α2 × α3 × α4 × α5 × α6 × α7 × α8 × α9 × α10 × α11 × α12 × α13 × α14 × α15 × α16 × α17 × α18 × α19 × α20 × α21 × α22 × α23 × α24 × α25 × α26 × α27 × α28 × α29 × α30)} {k : α1 → α2 → α3 → α4 → α5 → α6 → α7 → α8 → α9 → α10 → α11 → α12 → α13 → α14 → α15 → α16 → α17 → α18 → α19 → α20 → α21 → α22 → α23 → α24 → α25 → α26 → α27 → α28 → α29 → α30 → Option β} {Q : (α1 × α2 × α3 × α4 × α5 × α6 × α7 × α8 × α9 × α10 × α11 × α12 × α13 × α14 × α15 × α16 × α17 × α18 × α19 × α20 × α21 × α22 × α23 × α24 × α25 × α26 × α27 × α28 × α29 × α30) → Prop} {P : β → Prop} (h : zok o Q) (hk : ∀ a1 a2 a3 a4 a5 a6 a7 a8 a9 a10 a11 a12 a13 a14 a15 a16 a17 a18 a19 a20 a21 a22 a23 a24 a25 a26 a27 a28 a29 a30, Q (a1, a2, a3, a4, a5, a6, a7, a8, a9, a10, a11, a12, a13, a14, a15, a16, a17, a18, a19, a20, a21, a22, a23, a24, a25, a26, a27, a28, a29, a30) → zok (k a1 a2 a3 a4 a5 a6 a7 a8 a9 a10 a11 a12 a13 a14 a15 a16 a17 a18 a19 a20 a21 a22 a23 a24 a25 a26 a27 a28 a29 a30) P) : zok (zd30 o k) P := by
  obtain ⟨t, e, q⟩ := h
  unfold zd30
  rw [e]
  exact hk _ _ _ _ _ _ _ _ _ _ _ _ _ _ _ _ _ _ _ _ _ _ _ _ _ _ _ _ _ _ q
theorem zk_d31 {α1 α2 α3 α4 α5 α6 α7 α8 α9 α10 α11 α12 α13 α14 α15 α16 α17 α18 α19 α20 α21 α22 α23 α24 α25 α26 α27 α28 α29 α30 α31 β : Type} {o : Option (α1 × α2 × α3 × α4 × α5 × α6 × α7 × α8 × α9 × α10 × α11 × α12 × α13 × α14 × α15 × α16 × α17 × α18 × α19 × α20 × α21 × α22 × α23 × α24 × α25 × α26 × α27 × α28 × α29 × α30 × α31)} {k : α1 → α2 → α3 → α4 → α5 → α6 → α7 → α8 → α9 → α10 → α11 → α12 → α13 → α14 → α15 → α16 → α17 → α18 → α19 → α20 → α21 → α22 → α23 → α24 → α25 → α26 → α27 → α28 → α29 → α30 → α31 → Option β} {Q : (α1 × α2 × α3 × α4 × α5 × α6 × α7 × α8 × α9 × α10 × α11 × α12 × α13 × α14 × α15 × α16 × α17 × α18 × α19 × α20 × α21 × α22 × α23 × α24 × α25 × α26 × α27 × α28 × α29 × α30 × α31) → Prop} {P : β → Prop} (h : zok o Q) (hk : ∀ a1 a2 a3 a4 a5 a6 a7 a8 a9 a10 a11 a12 a13 a14 a15 a16 a17 a18 a19 a20 a21 a22 a23 a24 a25 a26 a27 a28 a29 a30 a31, Q (a1, a2, a3, a4, a5, a6, a7, a8, a9, a10, a11, a12, a13, a14, a15, a16, a17, a18, a19, a20, a21, a22, a23, a24, a25, a26, a27, a28, a29, a30, a31) → zok (k a1 a2 a3 a4 a5 a6 a7 a8 a9 a10 a11 a12 a13 a14 a15 a16 a17 a18 a19 a20 a21 a22 a23 a24 a25 a26 a27 a28 a29 a30 a31) P) : zok (zd31 o k) P := by
  obtain ⟨t, e, q⟩ := h
  unfold zd31
  rw [e]
  exact hk _ _ _ _ _ _ _ _ _ _ _ _ _ _ _ _ _ _ _ _ _ _ _ _ _ _ _ _ _ _ _ q
theorem zk_d32 {α1 α2 α3 α4 α5 α6 α7 α8 α9 α10 α11 α12 α13 α14 α15 α16 α17 α18 α19 α20 α21 α22 α23 α24 α25 α26 α27 α28 α29 α30 α31 α32 β : Type} {o : Option (α1 × α2 × α3 × α4 × α5 × α6 × α7 × α8 × α9 × α10 × α11 × α12 × α13 × α14 × α15 × α16 × α17 × α18 × α19 × α20 × α21 × α22 × α23 × α24 × α25 × α26 × α27 × α28 × α29 × α30 × α31 × α32)} {k : α1 → α2 → α3 → α4 → α5 → α6 → α7 → α8 → α9 → α10 → α11 → α12 → α13 → α14 → α15 → α16 → α17 → α18 → α19 → α20 → α21 → α22 → α23 → α24 → α25 → α26 → α27 → α28 → α29 → α30 → α31 → α32 → Option β} {Q : (α1 × α2 × α3 × α4 × α5 × α6 × α7 × α8 × α9 × α10 × α11 × α12 × α13 × α14 × α15 × α16 × α17 × α18 × α19 × α20 × α21 × α22 × α23 × α24 × α25 × α26 × α27 × α28 × α29 × α30 × α31 × α32) → Prop} {P : β → Prop} (h : zok o Q) (hk : ∀ a1 a2 a3 a4 a5 a6 a7 a8 a9 a10 a11 a12 a13 a14 a15 a16 a17 a18 a19 a20 a21 a22 a23 a24 a25 a26 a27 a28 a29 a30 a31 a32, Q (a1, a2, a3, a4, a5, a6, a7, a8, a9, a10, a11, a12, a13, a14, a15, a16, a17, a18, a19, a20, a21, a22, a23, a24, a25, a26, a27, a28, a29, a30, a31, a32) → zok (k a1 a2 a3 a4 a5 a6 a7 a8 a9 a10 a11 a12 a13 a14 a15 a16 a17 a18 a19 a20 a21 a22 a23 a24 a25 a26 a27 a28 a29 a30 a31 a32) P) : zok (zd32 o k) P := by
  obtain ⟨t, e, q⟩ := h
  unfold zd32
  rw [e]
  exact hk _ _ _ _ _ _ _ _ _ _ _ _ _ _ _ _ _ _ _ _ _ _ _ _ _ _ _ _ _ _ _ _ q
theorem zk_d33 {α1 α2 α3 α4 α5 α6 α7 α8 α9 α10 α11 α12 α13 α14 α15 α16 α17 α18 α19 α20 α21 α22 α23 α24 α25 α26 α27 α28 α29 α30 α31 α32 α33 β : Type} {o : Option (α1 × α2 × α3 × α4 × α5 × α6 × α7 × α8 × α9 × α10 × α11 × α12 × α13 × α14 × α15 × α16 × α17 × α18 × α19 × α20 × α21 × α22 × α23 × α24 × α25 × α26 × α27 × α28 × α29 × α30 × α31 × α32 × α33)} {k : α1 → α2 → α3 → α4 → α5 → α6 → α7 → α8 → α9 → α10 → α11 → α12 → α13 → α14 → α15 → α16 → α17 → α18 → α19 → α20 → α21 → α22 → α23 → α24 → α25 → α26 → α27 → α28 → α29 → α30 → α31 → α32 → α33 → Option β} {Q : (α1 × α2 × α3 × α4 × α5 × α6 × α7 × α8 × α9 × α10 × α11 × α12 × α13 × α14 × α15 × α16 × α17 × α18 × α19 × α20 × α21 × α22 × α23 × α24 × α25 × α26 × α27 × α28 × α29 × α30 × α31 × α32 × α33) → Prop} {P : β → Prop} (h : zok o Q) (hk : ∀ a1 a2 a3 a4 a5 a6 a7 a8 a9 a10 a11 a12 a13 a14 a15 a16 a17 a18 a19 a20 a21 a22 a23 a24 a25 a26 a27 a28 a29 a30 a31 a32 a33, Q (a1, a2, a3, a4, a5, a6, a7, a8, a9, a10, a11, a12, a13, a14, a15, a16, a17, a18, a19, a20, a21, a22, a23, a24, a25, a26, a27, a28, a29, a30, a31, a32, a33) → zok (k a1 a2 a3 a4 a5 a6 a7 a8 a9 a10 a11 a12 a13 a14 a15 a16 a17 a18 a19 a20 a21 a22 a23 a24 a25 a26 a27 a28 a29 a30 a31 a32 a33) P) : zok (zd33 o k) P := by
  obtain ⟨t, e, q⟩ := h
  unfold zd33
  rw [e]
  exact hk _ _ _ _ _ _ _ _ _ _ _ _ _ _ _ _ _ _ _ _ _ _ _ _ _ _ _ _ _ _ _ _ _ q
theorem zk_d34 {α1 α2 α3 α4 α5 α6 α7 α8 α9 α10 α11 α12 α13 α14 α15 α16 α17 α18 α19 α20 α21 α22 α23 α24 α25 α26 α27 α28 α29 α30 α31 α32 α33 α34 β : Type} {o : Option (α1 × α2 × α3 × α4 × α5 × α6 × α7 × α8 × α9 × α10 × α11 × α12 × α13 × α14 × α15 × α16 × α17 × α18 × α19 × α20 × α21 × α22 × α23 × α24 × α25 × α26 × α27 × α28 × α29 × α30 × α31 × α32 × α33 × α34)} {k : α1 → α2 → α3 → α4 → α5 → α6 → α7 → α8 → α9 → α10 → α11 → α12 → α13 → α14 → α15 → α16 → α17 → α18 → α19 → α20 → α21 → α22 → α23 → α24 → α25 → α26 → α27 → α28 → α29 → α30 → α31 → α32 → α33 → α34 → Option β} {Q : (α1 × α2 × α3 × α4 × α5 × α6 × α7 × α8 × α9 × α10 × α11 × α12 × α13 × α14 × α15 × α16 × α17 × α18 × α19 × α20 × α21 × α22 × α23 × α24 × α25 × α26 × α27 × α28 × α29 × α30 × α31 × α32 × α33 × α34) → Prop} {P : β → Prop} (h : zok o Q) (hk : ∀ a1 a2 a3 a4 a5 a6 a7 a8 a9 a10 a11 a12 a13 a14 a15 a16 a17 a18 a19 a20 a21 a22 a23 a24 a25 a26 a27 a28 a29 a30 a31 a32 a33 a34, Q (a1, a2, a3, a4, a5, a6, a7, a8, a9, a10, a11, a12, a13, a14, a15, a16, a17, a18, a19, a20, a21, a22, a23, a24, a25, a26, a27, a28, a29, a30, a31, a32, a33, a34) → zok (k a1 a2 a3 a4 a5 a6 a7 a8 a9 a10 a11 a12 a13 a14 a15 a16 a17 a18 a19 a20 a21 a22 a23 a24 a25 a26 a27 a28 a29 a30 a31 a32 a33 a34) P) : zok (zd34 o k) P := by
  obtain ⟨t, e, q⟩ := h
  unfold zd34
  rw [e]
  exact hk _ _ _ _ _ _ _ _ _ _ _ _ _ _ _ _ _ _ _ _ _ _ _ _ _ _ _ _ _ _ _ _ _ _ q
theorem zk_d35 {α1 α2 α3 α4 α5 α6 α7 α8 α9 α10 α11 α12 α13 α14 α15 α16 α17 α18 α19 α20 α21 α22 α23 α24 α25 α26 α27 α28 α29 α30 α31 α32 α33 α34 α35 β : Type} {o : Option (α1 × α2 × α3 × α4 × α5 × α6 × α7 × α8 × α9 × α10 × α11 × α12 × α13 × α14 × α15 × α16 × α17 × α18 × α19 × α20 × α21 × α22 × α23 × α24 × α25 × α26 × α27 × α28 × α29 × α30 × α31 × α32 × α33 × α34 × α35)} {k : α1 → α2 → α3 → α4 → α5 → α6 → α7 → α8 → α9 → α10 → α11 → α12 → α13 → α14 → α15 → α16 → α17 → α18 → α19 → α20 → α21 → α22 → α23 → α24 → α25 → α26 → α27 → α28 → α29 → α30 → α31 → α32 → α33 → α34 → α35 → Option β} {Q : (α1 × α2 × α3 × α4 × α5 × α6 × α7 × α8 × α9 × α10 × α11 × α12 × α13 × α14 × α15 × α16 × α17 × α18 × α19 × α20 × α21 × α22 × α23 × α24 × α25 × α26 × α27 × α28 × α29 × α30 × α31 × α32 × α33 × α34 × α35) → Prop} {P : β → Prop} (h : zok o Q) (hk : ∀ a1 a2 a3 a4 a5 a6 a7 a8 a9 a10 a11 a12 a13 a14 a15 a16 a17 a18 a19 a20 a21 a22 a23 a24 a25 a26 a27 a28 a29 a30 a31 a32 a33 a34 a35, Q (a1, a2, a3, a4, a5, a6, a7, a8, a9, a10, a11, a12, a13, a14, a15, a16, a17, a18, a19, a20, a21, a22, a23, a24, a25, a26, a27, a28, a29, a30, a31, a32, a33, a34, a35) → zok (k a1 a2 a3 a4 a5 a6 a7 a8 a9 a10 a11 a12 a13 a14 a15 a16 a17 a18 a19 a20 a21 a22 a23 a24 a25 a26 a27 a28 a29 a30 a31 a32 a33 a34 a35) P) : zok (zd35 o k) P := by
  obtain ⟨t, e, q⟩ := h
  unfold zd35
  rw [e]
  exact hk _ _ _ _ _ _ _ _ _ _ _ _ _ _ _ _ _ _ _ _ _ _ _ _ _ _ _ _ _ _ _ _ _ _ _ q
theorem zk_d36 {α1 α2 α3 α4 α5 α6 α7 α8 α9 α10 α11 α12 α13 α14 α15 α16 α17 α18 α19 α20 α21 α22 α23 α24 α25 α26 α27 α28 α29 α30 α31 α32 α33 α34 α35 α36 β : Type} {o : Option (α1 × α2 × α3 × α4 × α5 × α6 × α7 × α8 × α9 × α10 × α11 × α12 × α13 × α14 × α15 × α16 × α17 × α18 × α19 × α20 × α21 × α22 × α23 × α24 × α25 × α26 × α27 × α28 × α29 × α30 × α31 × α32 × α33 × α34 × α35 × α36)} {k : α1 → α2 → α3 → α4 → α5 → α6 → α7 → α8 → α9 → α10 → α11 → α12 → α13 → α14 → α15 → α16 → α17 → α18 → α19 → α20 → α21 → α22 → α23 → α24 → α25 → α26 → α27 → α28 → α29 → α30 → α31 → α32 → α33 → α34 → α35 → α36 → Option β} {Q : (α1 × α2 × α3 × α4 × α5 × α6 × α7 × α8 × α9 × α10 × α11 × α12 × α13 × α14 × α15 × α16 × α17 × α18 × α19 × α20 × α21 × α22 × α23 × α24 × α25 × α26 × α27 × α28 × α29 × α30 × α31 × α32 × α33 × α34 × α35 × α36) → Prop} {P : β → Prop} (h : zok o Q) (hk : ∀ a1 a2 a3 a4 a5 a6 a7 a8 a9 a10 a11 a12 a13 a14 a15 a16 a17 a18 a19 a20 a21 a22 a23 a24 a25 a26 a27 a28 a29 a30 a31 a32 a33 a34 a35 a36, Q (a1, a2, a3, a4, a5, a6, a7, a8, a9, a10, a11, a12, a13, a14, a15, a16, a17, a18, a19, a20, a21, a22, a23, a24, a25, a26, a27, a28, a29, a30, a31, a32, a33, a34, a35, a36) → zok (k a1 a2 a3 a4 a5 a6 a7 a8 a9 a10 a11 a12 a13 a14 a15 a16 a17 a18 a19 a20 a21 a22 a23 a24 a25 a26 a27 a28 a29 a30 a31 a32 a33 a34 a35 a36) P) : zok (zd36 o k) P := by
  obtain ⟨t, e, q⟩ := h
  unfold zd36
  rw [e]
  exact hk _ _ _ _ _ _ _ _ _ _ _ _ _ _ _ _ _ _ _ _ _ _ _ _ _ _ _ _ _ _ _ _ _ _ _ _ q
theorem zk_d37 {α1 α2 α3 α4 α5 α6 α7 α8 α9 α10 α11 α12 α13 α14 α15 α16 α17 α18 α19 α20 α21 α22 α23 α24 α25 α26 α27 α28 α29 α30 α31 α32 α33 α34 α35 α36 α37 β : Type} {o : Option (α1 × α2 × α3 × α4 × α5 × α6 × α7 × α8 × α9 × α10 × α11 × α12 × α13 × α14 × α15 × α16 × α17 × α18 × α19 × α20 × α21 × α22 × α23 × α24 × α25 × α26 × α27 × α28 × α29 × α30 × α31 × α32 × α33 × α34 × α35 × α36 × α37)} {k : α1 → α2 → α3 → α4 → α5 → α6 → α7 → α8 → α9 → α10 → α11 → α12 → α13 → α14 → α15 → α16 → α17 → α18 → α19 → α20 → α21 → α22 → α23 → α24 → α25 → α26 → α27 → α28 → α29 → α30 → α31 → α32 → α33 → α34 → α35 → α36 → α37 → Option β} {Q : (α1 × α2 × α3 × α4 × α5 × α6 × α7 × α8 × α9 × α10 × α11 × α12 × α13 × α14 × α15 × α16 × α17 × α18 × α19 × α20 × α21 × α22 × α23 × α24 × α25 × α26 × α27 × α28 × α29 × α30 × α31 × α32 × α33 × α34 × α35 × α36 × α37) → Prop} {P : β → Prop} (h : zok o Q) (hk : ∀ a1 a2 a3 a4 a5 a6 a7 a8 a9 a10 a11 a12 a13 a14 a15 a16 a17 a18 a19 a20 a21 a22 a23 a24 a25 a26 a27 a28 a29 a30 a31 a32 a33 a34 a35 a36 a37, Q (a1, a2, a3, a4, a5, a6, a7, a8, a9, a10, a11, a12, a13, a14, a15, a16, a17, a18, a19, a20, a21, a22, a23, a24, a25, a26, a27, a28, a29, a30, a31, a32, a33, a34, a35, a36, a37) → zok (k a1 a2 a3 a4 a5 a6 a7 a8 a9 a10 a11 a12 a13 a14 a15 a16 a17 a18 a19 a20 a21 a22 a23 a24 a25 a26 a27 a28 a29 a30 a31 a32 a33 a34 a35 a36 a37) P) : zok (zd37 o k) P := by
  obtain ⟨t, e, q⟩ := h
  unfold zd37
  rw [e]
  exact hk _ _ _ _ _ _ _ _ _ _ _ _ _ _ _ _ _ _ _ _ _ _ _ _ _ _ _ _ _ _ _ _ _ _ _ _ _ q
theorem zk_d38 {α1 α2 α3 α4 α5 α6 α7 α8 α9 α10 α11 α12 α13 α14 α15 α16 α17 α18 α19 α20 α21 α22 α23 α24 α25 α26 α27 α28 α29 α30 α31 α32 α33 α34 α35 α36 α37 α38 β : Type} {o : Option (α1 × α2 × α3 × α4 × α5 × α6 × α7 × α8 × α9 × α10 × α11 × α12 × α13 × α14 × α15 × α16 × α17 × α18 × α19 × α20 × α21 × α22 × α23 × α24 × α25 × α26 × α27 × α28 × α29 × α30 × α31 × α32 × α33 × α34 × α35 × α36 × α37 × α38)} {k : α1 → α2 → α3 → α4 → α5 → α6 → α7 → α8 → α9 → α10 → α11 → α12 → α13 → α14 → α15 → α16 → α17 → α18 → α19 → α20 → α21 → α22 → α23 → α24 → α25 → α26 → α27 → α28 → α29 → α30 → α31 → α32 → α33 → α34 → α35 → α36 → α37 → α38 → Option β} {Q : (α1 × α2 × α3 × α4 × α5 × α6 × α7 × α8 × α9 × α10 × α11 × α12 × α13 × α14 × α15 × α16 × α17 × α18 × α19 × α20 × α21 × α22 × α23 × α24 × α25 × α26 × α27 × α28 × α29 × α30 × α31 × α32 × α33 × α34 × α35 × α36 × α37 × α38) → Prop} {P : β → Prop} (h : zok o Q) (hk : ∀ a1 a2 a3 a4 a5 a6 a7 a8 a9 a10 a11 a12 a13 a14 a15 a16 a17 a18 a19 a20 a21 a22 a23 a24 a25 a26 a27 a28 a29 a30 a31 a32 a33 a34 a35 a36 a37 a38, Q (a1, a2, a3, a4, a5, a6, a7, a8, a9, a10, a11, a12, a13, a14, a15, a16, a17, a18, a19, a20, a21, a22, a23, a24, a25, a26, a27, a28, a29, a30, a31, a32, a33, a34, a35, a36, a37, a38) → zok (k a1 a2 a3 a4 a5 a6 a7 a8 a9 a10 a11 a12 a13 a14 a15 a16 a17 a18 a19 a20 a21 a22 a23 a24 a25 a26 a27 a28 a29 a30 a31 a32 a33 a34 a35 a36 a37 a38) P) : zok (zd38 o k) P := by
  obtain ⟨t, e, q⟩ := h
  unfold zd38
  rw [e]
  exact hk _ _ _ _ _ _ _ _ _ _ _ _ _ _ _ _ _ _ _ _ _ _ _ _ _ _ _ _ _ _ _ _ _ _ _ _ _ _ q
theorem zk_d39 {α1 α2 α3 α4 α5 α6 α7 α8 α9 α10 α11 α12 α13 α14 α15 α16 α17 α18 α19 α20 α21 α22 α23 α24 α25 α26 α27 α28 α29 α30 α31 α32 α33 α34 α35 α36 α37 α38 α39 β : Type} {o : Option (α1 × α2 × α3 × α4 × α5 × α6 × α7 × α8 × α9 × α10 × α11 × α12 × α13 × α14 × α15 × α16 × α17 × α18 × α19 × α20 × α21 × α22 × α23 × α24 × α25 × α26 × α27 × α28 × α29 × α30 × α31 × α32 × α33 × α34 × α35 × α36 × α37 × α38 × α39)} {k : α1 → α2 → α3 → α4 → α5 → α6 → α7 → α8 → α9 → α10 → α11 → α12 → α13 → α14 → α15 → α16 → α17 → α18 → α19 → α20 → α21 → α22 → α23 → α24 → α25 → α26 → α27 → α28 → α29 → α30 → α31 → α32 → α33 → α34 → α35 → α36 → α37 → α38 → α39 → Option β} {Q : (α1 × α2 × α3 × α4 × α5 × α6 × α7 × α8 × α9 × α10 × α11 × α12 × α13 × α14 × α15 × α16 × α17 × α18 × α19 × α20 × α21 × α22 × α23 × α24 × α25 × α26 × α27 × α28 × α29 × α30 × α31 × α32 × α33 × α34 × α35 × α36 × α37 × α38 × α39) → Prop} {P : β → Prop} (h : zok o Q) (hk : ∀ a1 a2 a3 a4 a5 a6 a7 a8 a9 a10 a11 a12 a13 a14 a15 a16 a17 a18 a19 a20 a21 a22 a23 a24 a25 a26 a27 a28 a29 a30 a31 a32 a33 a34 a35 a36 a37 a38 a39, Q (a1, a2, a3, a4, a5, a6, a7, a8, a9, a10, a11, a12, a13, a14, a15, a16, a17, a18, a19, a20, a21, a22, a23, a24, a25, a26, a27, a28, a29, a30, a31, a32, a33, a34, a35, a36, a37, a38, a39) → zok (k a1 a2 a3 a4 a5 a6 a7 a8 a9 a10 a11 a12 a13 a14 a15 a16 a17 a18 a19 a20 a21 a22 a23 a24 a25 a26 a27 a28 a29 a30 a31 a32 a33 a34 a35 a36 a37 a38 a39) P) : zok (zd39 o k) P := by
  obtain ⟨t, e, q⟩ := h
  unfold zd39
  rw [e]
  exact hk _ _ _ _ _ _ _ _ _ _ _ _ _ _ _ _ _ _ _ _ _ _ _ _ _ _ _ _ _ _ _ _ _ _ _ _ _ _ _ q
theorem zk_d40 {α1 α2 α3 α4 α5 α6 α7 α8 α9 α10 α11 α12 α13 α14 α15 α16 α17 α18 α19 α20 α21 α22 α23 α24 α25 α26 α27 α28 α29 α30 α31 α32 α33 α34 α35 α36 α37 α38 α39 α40 β : Type} {o : Option (α1 × α2 × α3 × α4 × α5 × α6 × α7 × α8 × α9 × α10 × α11 × α12 × α13 × α14 × α15 × α16 × α17 × α18 × α19 × α20 × α21 × α22 × α23 × α24 × α25 × α26 × α27 × α28 × α29 × α30 × α31 × α32 × α33 × α34 × α35 × α36 × α37 × α38 × α39 × α40)} {k : α1 → α2 → α3 → α4 → α5 → α6 → α7 → α8 → α9 → α10 → α11 → α12 → α13 → α14 → α15 → α16 → α17 → α18 → α19 → α20 → α21 → α22 → α23 → α24 → α25 → α26 → α27 → α28 → α29 → α30 → α31 → α32 → α33 → α34 → α35 → α36 → α37 → α38 → α39 → α40 → Option β} {Q : (α1 × α2 × α3 × α4 × α5 × α6 × α7 × α8 × α9 × α10 × α11 × α12 × α13 × α14 × α15 × α16 × α17 × α18 × α19 × α20 × α21 × α22 × α23 × α24 × α25 × α26 × α27 × α28 × α29 × α30 × α31 × α32 × α33 × α34 × α35 × α36 × α37 × α38 × α39 × α40) → Prop} {P : β → Prop} (h : zok o Q) (hk : ∀ a1 a2 a3 a4 a5 a6 a7 a8 a9 a10 a11 a12 a13 a14 a15 a16 a17 a18 a19 a20 a21 a22 a23 a24 a25 a26 a27 a28 a29 a30 a31 a32 a33 a34 a35 a36 a37 a38 a39 a40, Q (a1, a2, a3, a4, a5, a6, a7, a8, a9, a10, a11, a12, a13, a14, a15, a16, a17, a18, a19, a20, a21, a22, a23, a24, a25, a26, a27, a28, a29, a30, a31, a32, a33, a34, a35, a36, a37, a38, a39, a40) → zok (k a1 a2 a3 a4 a5 a6 a7 a8 a9 a10 a11 a12 a13 a14 a15 a16 a17 a18 a19 a20 a21 a22 a23 a24 a25 a26 a27 a28 a29 a30 a31 a32 a33 a34 a35 a36 a37 a38 a39 a40) P) : zok (zd40 o k) P := by
  obtain ⟨t, e, q⟩ := h
  unfold zd40
  rw [e]
  exact hk _ _ _ _ _ _ _ _ _ _ _ _ _ _ _ _ _ _ _ _ _ _ _ _ _ _ _ _ _ _ _ _ _ _ _ _ _ _ _ _ q
end
section
/-! OUR OWN: the reference's row -/
noncomputable def zlo (j : Nat) : Int := if j < 4 then 0 else if j = 4 then -1 else if j < 6 then 0 else if j < 8 then 1 else if j < 141 then 0 else if j < 153 then -1 else 0
noncomputable def zhi (j : Nat) : Int := if j = 0 then 12 else if j < 4 then 6 else if j = 4 then 5 else if j = 5 then 99 else if j < 8 then 9 else if j = 8 then 30 else if j < 21 then 10 else if j < 141 then 30 else if j < 153 then 10 else if j < 171 then 60 else 11
/-- an instruction of a law's code, D: how many numbers lie on the pile ahead of it -/
noncomputable def zcs (t : Nat → Int) (D : Nat → Nat) (e k : Nat) : Prop :=
  (0 ≤ t (98 + 2 * k) ∧ t (98 + 2 * k) ≤ 8 ∧ D (k + 1) = D k + 1) ∨
  (20 ≤ t (98 + 2 * k) ∧ t (98 + 2 * k) ≤ 26 ∧ D (k + 1) + 1 = D k ∧ 2 ≤ D k) ∨
  (t (98 + 2 * k) = 27 ∧ D (k + 1) = D k ∧ 1 ≤ D k) ∨
  ((t (98 + 2 * k) = 28 ∨ t (98 + 2 * k) = 29) ∧ D (k + 1) + 1 = D k ∧ ∃ a : Nat, t (99 + 2 * k) = (a : Int) ∧ k < a ∧ a ≤ e ∧ D a = D k)
noncomputable def CWF (t : Nat → Int) (s e : Nat) : Prop := s ≤ e ∧ e ≤ 400 ∧ ∃ D : Nat → Nat, D s = 0 ∧ (∀ k, s ≤ k → k ≤ e → D k ≤ 400) ∧ ∀ k, s ≤ k → k < e → zcs t D e k
noncomputable def LWF (t : Nat → Int) : Prop := 0 ≤ t 1 ∧ t 1 ≤ 12 ∧ ∀ c : Nat, (c : Int) < t 1 → ∃ s1 e1 s2 e2 : Nat, (t (2 + 8 * c) = 0 ∨ t (2 + 8 * c) = 1) ∧ t (5 + 8 * c) = (s1 : Int) ∧ t (6 + 8 * c) = (e1 : Int) ∧ t (7 + 8 * c) = (s2 : Int) ∧ t (8 + 8 * c) = (e2 : Int) ∧ CWF t s1 e1 ∧ CWF t s2 e2
noncomputable def RI (r : Nat → Int) : Prop := (∀ j, j < 177 → zlo j ≤ r j ∧ r j ≤ zhi j) ∧ r 4 < r 3 ∧ ∀ l : Nat, (l : Int) < r 3 → LWF (fun j => r (180 + 900 * l + j))
theorem RI_j {r : Nat → Int} (h : RI r) {lo hi : Int} (j : Nat) (hj : j < 177) (h1 : lo ≤ zlo j) (h2 : zhi j ≤ hi) : lo ≤ r j ∧ r j ≤ hi := by
  have := h.1 j hj
  omega
theorem RI_0 {r : Nat → Int} (h : RI r) : 0 ≤ r 0 ∧ r 0 ≤ 12 := RI_j h 0 (by decide) (by decide) (by decide)
theorem RI_1 {r : Nat → Int} (h : RI r) : 0 ≤ r 1 ∧ r 1 ≤ 6 := RI_j h 1 (by decide) (by decide) (by decide)
theorem RI_2 {r : Nat → Int} (h : RI r) : 0 ≤ r 2 ∧ r 2 ≤ 6 := RI_j h 2 (by decide) (by decide) (by decide)
theorem RI_3 {r : Nat → Int} (h : RI r) : 0 ≤ r 3 ∧ r 3 ≤ 6 := RI_j h 3 (by decide) (by decide) (by decide)
theorem RI_4 {r : Nat → Int} (h : RI r) : -1 ≤ r 4 ∧ r 4 ≤ 5 ∧ r 4 < r 3 := by
  have h1 := RI_j h (lo := -1) (hi := 5) 4 (by decide) (by decide) (by decide)
  exact ⟨h1.1, h1.2, h.2.1⟩
theorem RI_5 {r : Nat → Int} (h : RI r) : 0 ≤ r 5 ∧ r 5 ≤ 99 := RI_j h 5 (by decide) (by decide) (by decide)
theorem RI_6 {r : Nat → Int} (h : RI r) : 1 ≤ r 6 ∧ r 6 ≤ 9 := RI_j h 6 (by decide) (by decide) (by decide)
theorem RI_7 {r : Nat → Int} (h : RI r) : 1 ≤ r 7 ∧ r 7 ≤ 9 := RI_j h 7 (by decide) (by decide) (by decide)
theorem RI_8 {r : Nat → Int} (h : RI r) : 0 ≤ r 8 ∧ r 8 ≤ 30 := RI_j h 8 (by decide) (by decide) (by decide)
theorem zlh_t : ∀ j : Fin 177, 5 ≤ j.val ∧ j.val < 9 → 0 ≤ zlo j.val ∧ zhi j.val ≤ 99 := by decide +kernel
theorem zlh_h : ∀ j : Fin 177, 9 ≤ j.val ∧ j.val < 21 → zlo j.val = 0 ∧ zhi j.val = 10 := by decide +kernel
theorem zlh_s : ∀ j : Fin 177, 21 ≤ j.val ∧ j.val < 141 → zlo j.val = 0 ∧ zhi j.val = 30 := by decide +kernel
theorem zlh_g : ∀ j : Fin 177, 141 ≤ j.val ∧ j.val < 153 → zlo j.val = -1 ∧ zhi j.val = 10 := by decide +kernel
theorem zlh_c : ∀ j : Fin 177, 153 ≤ j.val ∧ j.val < 171 → zlo j.val = 0 ∧ zhi j.val = 60 := by decide +kernel
theorem zlh_p : ∀ j : Fin 177, 171 ≤ j.val ∧ j.val < 177 → zlo j.val = 0 ∧ zhi j.val = 11 := by decide +kernel
theorem RI_t {r : Nat → Int} (h : RI r) {i : Int} (hi : 5 ≤ i ∧ i < 9) : 0 ≤ r i.toNat ∧ r i.toNat ≤ 99 :=
  RI_j h i.toNat (by omega) (by have z := zlh_t ⟨i.toNat, by omega⟩ (by dsimp only; omega); dsimp only at z; omega) (by have z := zlh_t ⟨i.toNat, by omega⟩ (by dsimp only; omega); dsimp only at z; omega)
theorem RI_h {r : Nat → Int} (h : RI r) {i : Int} (hi : 9 ≤ i ∧ i < 21) : 0 ≤ r i.toNat ∧ r i.toNat ≤ 10 :=
  RI_j h i.toNat (by omega) (by have z := zlh_h ⟨i.toNat, by omega⟩ (by dsimp only; omega); dsimp only at z; omega) (by have z := zlh_h ⟨i.toNat, by omega⟩ (by dsimp only; omega); dsimp only at z; omega)
theorem RI_s {r : Nat → Int} (h : RI r) {i : Int} (hi : 21 ≤ i ∧ i < 141) : 0 ≤ r i.toNat ∧ r i.toNat ≤ 30 :=
  RI_j h i.toNat (by omega) (by have z := zlh_s ⟨i.toNat, by omega⟩ (by dsimp only; omega); dsimp only at z; omega) (by have z := zlh_s ⟨i.toNat, by omega⟩ (by dsimp only; omega); dsimp only at z; omega)
theorem RI_g {r : Nat → Int} (h : RI r) {i : Int} (hi : 141 ≤ i ∧ i < 153) : -1 ≤ r i.toNat ∧ r i.toNat ≤ 10 :=
  RI_j h i.toNat (by omega) (by have z := zlh_g ⟨i.toNat, by omega⟩ (by dsimp only; omega); dsimp only at z; omega) (by have z := zlh_g ⟨i.toNat, by omega⟩ (by dsimp only; omega); dsimp only at z; omega)
theorem RI_c {r : Nat → Int} (h : RI r) {i : Int} (hi : 153 ≤ i ∧ i < 171) : 0 ≤ r i.toNat ∧ r i.toNat ≤ 60 :=
  RI_j h i.toNat (by omega) (by have z := zlh_c ⟨i.toNat, by omega⟩ (by dsimp only; omega); dsimp only at z; omega) (by have z := zlh_c ⟨i.toNat, by omega⟩ (by dsimp only; omega); dsimp only at z; omega)
theorem RI_p {r : Nat → Int} (h : RI r) {i : Int} (hi : 171 ≤ i ∧ i < 177) : 0 ≤ r i.toNat ∧ r i.toNat ≤ 11 :=
  RI_j h i.toNat (by omega) (by have z := zlh_p ⟨i.toNat, by omega⟩ (by dsimp only; omega); dsimp only at z; omega) (by have z := zlh_p ⟨i.toNat, by omega⟩ (by dsimp only; omega); dsimp only at z; omega)
theorem LWF_ext {t u : Nat → Int} (h : LWF t) (e : ∀ j, j < 900 → u j = t j) : LWF u := by
  obtain ⟨h1, h2, h3⟩ := h
  refine ⟨by rw [e 1 (by omega)]; exact h1, by rw [e 1 (by omega)]; exact h2, fun c hc => ?_⟩
  rw [e 1 (by omega)] at hc
  have hc2 : c < 12 := by omega
  obtain ⟨s1, e1, s2, e2, q0, q1, q2, q3, q4, c1, c2⟩ := h3 c hc
  have key : ∀ s f : Nat, CWF t s f → CWF u s f := by
    rintro s f ⟨g1, g2, D, g3, g4, g5⟩
    refine ⟨g1, g2, D, g3, g4, fun k k1 k2 => ?_⟩
    have := g5 k k1 k2
    unfold zcs at this ⊢
    rw [e (98 + 2 * k) (by omega), e (99 + 2 * k) (by omega)]
    exact this
  exact ⟨s1, e1, s2, e2, by rw [e _ (by omega)]; exact q0, by rw [e _ (by omega)]; exact q1, by rw [e _ (by omega)]; exact q2, by rw [e _ (by omega)]; exact q3, by rw [e _ (by omega)]; exact q4, key _ _ c1, key _ _ c2⟩
theorem RI_ext {r q : Nat → Int} (h : RI r) (e : ∀ j, j < 5580 → q j = r j) : RI q := by
  refine ⟨fun j hj => by rw [e j (by omega)]; exact h.1 j hj, by rw [e 4 (by omega), e 3 (by omega)]; exact h.2.1, fun l hl => ?_⟩
  rw [e 3 (by omega)] at hl
  have h3 := RI_3 h
  exact LWF_ext (h.2.2 l hl) (fun j hj => e _ (by omega))
theorem RI_zu {r : Nat → Int} (h : RI r) {i : Nat} {v : Int} (hi : i < 177) (h3 : i ≠ 3) (h4 : i ≠ 4) (h1 : zlo i ≤ v) (h2 : v ≤ zhi i) : RI (zu r i v) := by
  refine ⟨fun j hj => ?_, by rw [zu_ne _ _ (by omega), zu_ne _ _ (by omega)]; exact h.2.1, fun l hl => ?_⟩
  · by_cases q : j = i
    · subst q; rw [zu_eq]; exact ⟨h1, h2⟩
    · rw [zu_ne _ _ q]; exact h.1 j hj
  · rw [zu_ne _ _ (by omega)] at hl
    exact LWF_ext (h.2.2 l hl) (fun j hj => zu_ne _ _ (by omega))
theorem RIz_0 {r : Nat → Int} (h : RI r) {v : Int} (hv : 0 ≤ v ∧ v ≤ 12) : RI (zu r 0 v) := RI_zu h (by decide) (by decide) (by decide) (by exact hv.1) (by exact hv.2)
theorem RIz_1 {r : Nat → Int} (h : RI r) {v : Int} (hv : 0 ≤ v ∧ v ≤ 6) : RI (zu r 1 v) := RI_zu h (by decide) (by decide) (by decide) (by exact hv.1) (by exact hv.2)
theorem RIz_2 {r : Nat → Int} (h : RI r) {v : Int} (hv : 0 ≤ v ∧ v ≤ 6) : RI (zu r 2 v) := RI_zu h (by decide) (by decide) (by decide) (by exact hv.1) (by exact hv.2)
theorem RIz_4 {r : Nat → Int} (h : RI r) {v : Int} (hv : -1 ≤ v ∧ v < r 3) : RI (zu r 4 v) := by
  have h3 := RI_3 h
  refine ⟨fun j hj => ?_, by rw [zu_eq, zu_ne _ _ (by decide)]; exact hv.2, fun l hl => ?_⟩
  · by_cases q : j = 4
    · subst q; rw [zu_eq]; exact ⟨hv.1, by have : zhi 4 = 5 := rfl; omega⟩
    · rw [zu_ne _ _ q]; exact h.1 j hj
  · rw [zu_ne _ _ (by decide)] at hl
    exact LWF_ext (h.2.2 l hl) (fun j hj => zu_ne _ _ (by omega))
theorem RIz_t {r : Nat → Int} (h : RI r) {i v : Int} (hi : 5 ≤ i ∧ i < 9) (hv : (i = 5 ∧ 0 ≤ v ∧ v ≤ 99) ∨ (i = 6 ∧ 1 ≤ v ∧ v ≤ 9) ∨ (i = 7 ∧ 1 ≤ v ∧ v ≤ 9) ∨ (i = 8 ∧ 0 ≤ v ∧ v ≤ 30)) : RI (zu r i.toNat v) := by
  have z : ∀ j : Nat, (j = 5 → zlo j = 0 ∧ zhi j = 99) ∧ (j = 6 → zlo j = 1 ∧ zhi j = 9) ∧ (j = 7 → zlo j = 1 ∧ zhi j = 9) ∧ (j = 8 → zlo j = 0 ∧ zhi j = 30) := fun j => ⟨fun e => by subst e; decide, fun e => by subst e; decide, fun e => by subst e; decide, fun e => by subst e; decide⟩
  have y := z i.toNat
  exact RI_zu h (by omega) (by omega) (by omega) (by omega) (by omega)
theorem RIz_h {r : Nat → Int} (h : RI r) {i v : Int} (hi : 9 ≤ i ∧ i < 21) (hv : 0 ≤ v ∧ v ≤ 10) : RI (zu r i.toNat v) :=
  RI_zu h (by omega) (by omega) (by omega) (by have z := zlh_h ⟨i.toNat, by omega⟩ (by dsimp only; omega); dsimp only at z; omega) (by have z := zlh_h ⟨i.toNat, by omega⟩ (by dsimp only; omega); dsimp only at z; omega)
theorem RIz_s {r : Nat → Int} (h : RI r) {i v : Int} (hi : 21 ≤ i ∧ i < 141) (hv : 0 ≤ v ∧ v ≤ 30) : RI (zu r i.toNat v) :=
  RI_zu h (by omega) (by omega) (by omega) (by have z := zlh_s ⟨i.toNat, by omega⟩ (by dsimp only; omega); dsimp only at z; omega) (by have z := zlh_s ⟨i.toNat, by omega⟩ (by dsimp only; omega); dsimp only at z; omega)
theorem RIz_g {r : Nat → Int} (h : RI r) {i v : Int} (hi : 141 ≤ i ∧ i < 153) (hv : -1 ≤ v ∧ v ≤ 10) : RI (zu r i.toNat v) :=
  RI_zu h (by omega) (by omega) (by omega) (by have z := zlh_g ⟨i.toNat, by omega⟩ (by dsimp only; omega); dsimp only at z; omega) (by have z := zlh_g ⟨i.toNat, by omega⟩ (by dsimp only; omega); dsimp only at z; omega)
theorem RIz_c {r : Nat → Int} (h : RI r) {i v : Int} (hi : 153 ≤ i ∧ i < 171) (hv : 0 ≤ v ∧ v ≤ 60) : RI (zu r i.toNat v) :=
  RI_zu h (by omega) (by omega) (by omega) (by have z := zlh_c ⟨i.toNat, by omega⟩ (by dsimp only; omega); dsimp only at z; omega) (by have z := zlh_c ⟨i.toNat, by omega⟩ (by dsimp only; omega); dsimp only at z; omega)
theorem RIz_p {r : Nat → Int} (h : RI r) {i v : Int} (hi : 171 ≤ i ∧ i < 177) (hv : 0 ≤ v ∧ v ≤ 11) : RI (zu r i.toNat v) :=
  RI_zu h (by omega) (by omega) (by omega) (by have z := zlh_p ⟨i.toNat, by omega⟩ (by dsimp only; omega); dsimp only at z; omega) (by have z := zlh_p ⟨i.toNat, by omega⟩ (by dsimp only; omega); dsimp only at z; omega)
/-- the sum of the squares: slides make it less -/
noncomputable def zq (h : Nat → Int) : Nat → Int
  | 0 => 0
  | n + 1 => zq h n + h n * h n
theorem zq_ge {h : Nat → Int} {i n : Nat} {v : Int} (hn : n ≤ i) : zq (zu h i v) n = zq h n := by
  induction n with
  | zero => rfl
  | succ n ih => show zq (zu h i v) n + zu h i v n * zu h i v n = zq h n + h n * h n; rw [ih (by omega), zu_ne _ _ (by omega)]
theorem zq_zu {h : Nat → Int} {i n : Nat} {v : Int} (hn : i < n) : zq (zu h i v) n = zq h n - h i * h i + v * v := by
  induction n with
  | zero => omega
  | succ n ih =>
    show zq (zu h i v) n + zu h i v n * zu h i v n = zq h n + h n * h n - h i * h i + v * v
    by_cases q : i = n
    · subst q; rw [zq_ge (Nat.le_refl _), zu_eq]; omega
    · rw [ih (by omega), zu_ne _ _ (by omega)]; omega
theorem zq_le {h : Nat → Int} (hh : zR h 0 10) (n : Nat) : 0 ≤ zq h n ∧ zq h n ≤ 100 * (n : Int) := by
  induction n with
  | zero => exact ⟨Int.le_refl 0, Int.le_refl 0⟩
  | succ n ih =>
    have h1 := hh n
    have h2 := zmulb (a := h n) (b := h n) 10 10 h1 h1
    show 0 ≤ zq h n + h n * h n ∧ zq h n + h n * h n ≤ 100 * ((n + 1 : Nat) : Int)
    omega
theorem zq_shift {h : Nat → Int} {i j : Nat} (hi : i < 12) (hj : j < 12) (hij : i ≠ j) (hd : h j + 2 ≤ h i) : zq (zu (zu h i (h i - 1)) j (h j + 1)) 12 < zq h 12 := by
  rw [zq_zu hj, zq_zu hi, zu_ne _ _ (by omega)]
  have e1 : (h i - 1) * (h i - 1) = h i * h i - 2 * h i + 1 := by
    rw [Int.sub_mul, Int.mul_sub, Int.mul_sub]; omega
  have e2 : (h j + 1) * (h j + 1) = h j * h j + 2 * h j + 1 := by
    rw [Int.add_mul, Int.mul_add, Int.mul_add]; omega
  rw [e1, e2]
  omega
end
section
theorem s_HM_in (x0 : Int) (x2 : Int) (x4 : Int) (b_x0 : (-9223372036854775808) ≤ x0 ∧ x0 ≤ 9223372036854775807) (b_x2 : (-9223372036854775808) ≤ x2 ∧ x2 ≤ 9223372036854775807) (b_x4 : (-9223372036854775808) ≤ x4 ∧ x4 ≤ 9223372036854775807) : zok (f_HM_in x0 x2 x4) (fun o => ((o = 1 ∧ x2 ≤ x0 ∧ x0 ≤ x4) ∨ (o = 0 ∧ (x0 < x2 ∨ x4 < x0)))) := by
  unfold f_HM_in
  refine zk_ifc (zcl_lt (by omega) (by omega)) (fun hc => ?_) (fun hc => ?_)
  · exact zk_ret (by omega)
  · refine zk_ifc (zcl_lt (by omega) (by omega)) (fun hc_2 => ?_) (fun hc_2 => ?_)
    · exact zk_ret (by omega)
    · exact zk_ret (by omega)
theorem s_HM_tell (x1 : Int) (i_status : Int) (i_refusals : Nat → Int) (b_x1 : (-6) ≤ x1 ∧ x1 ≤ 2147483647) : zok (f_HM_tell x1 i_status i_refusals) (fun o => (o.1 = x1) ∧ ((0 ≤ x1 ∧ o.2.1 = 0) ∨ (x1 < 0 ∧ o.2.1 = x1))) := by
  unfold f_HM_tell
  refine zk_ifc (zci_lel (by omega)) (fun hc => ?_) (fun hc => ?_)
  · unfold f_HM_tell_10
    refine zk_ifc (zci_lel (by omega)) (fun hc_2 => ?_) (fun hc_2 => ?_)
    · refine zk_ret ?_
      try dsimp only
      exact ⟨by omega, by omega⟩
    · refine zk_nE (fun v1 h_v1 => ?_)
      refine zk_gv (by omega) (by decide) (fun v2 h_v2 => ?_)
      refine zk_n ?_
      refine zk_sv (by omega) (by decide) (fun a4 h_a4 => ?_)
      refine zk_ret ?_
      try dsimp only
      exact ⟨by omega, by omega⟩
  · unfold f_HM_tell_10
    refine zk_ifc (zci_lel (by omega)) (fun hc_3 => ?_) (fun hc_3 => ?_)
    · refine zk_ret ?_
      try dsimp only
      exact ⟨by omega, by omega⟩
    · refine zk_nE (fun v1_2 h_v1_2 => ?_)
      refine zk_gv (by omega) (by decide) (fun v2_2 h_v2_2 => ?_)
      refine zk_n ?_
      refine zk_sv (by omega) (by decide) (fun a4_2 h_a4_2 => ?_)
      refine zk_ret ?_
      try dsimp only
      exact ⟨by omega, by omega⟩
theorem s_HM_columns (i_row : Nat → Int) (h_i_row : RI i_row) : zok (f_HM_columns i_row) (fun o => (o = i_row 0) ∧ (0 ≤ i_row 0 ∧ i_row 0 ≤ 12)) := by
  unfold f_HM_columns
  refine zk_gl 0 rfl (by decide) (by decide) (fun v1 h_v1 => ?_)
  have r_v1 := RI_0 h_i_row
  exact zk_ret ⟨by omega, by omega⟩
theorem s_HM_isWeight (x0 : Int) (b_x0 : (-2147483648) ≤ x0 ∧ x0 ≤ 2147483647) : zok (f_HM_isWeight x0) (fun o => ((o = 1 ∧ 1 ≤ x0 ∧ x0 ≤ 30) ∨ (o = 0 ∧ (x0 < 1 ∨ 30 < x0)))) := by
  unfold f_HM_isWeight
  refine zk_nE (fun v1 h_v1 => ?_)
  rw [zwi (by omega)] at h_v1
  replace h_v1 := h_v1.symm
  subst h_v1
  refine zk_d1 (s_HM_in _ _ _ (by omega) (by omega) (by omega)) (fun v2 hp => ?_)
  try dsimp only at hp
  have hpp0 := hp
  refine zk_gb (by omega) ?_
  exact zk_ret (by omega)
theorem s_HM_isColumn (x1 : Int) (i_row : Nat → Int) (b_x1 : (-2147483648) ≤ x1 ∧ x1 ≤ 2147483647) (h_i_row : RI i_row) : zok (f_HM_isColumn x1 i_row) (fun o => ((o = 1 ∧ 0 ≤ x1 ∧ x1 < i_row 0) ∨ (o = 0 ∧ (x1 < 0 ∨ i_row 0 ≤ x1))) ∧ (0 ≤ i_row 0 ∧ i_row 0 ≤ 12)) := by
  unfold f_HM_isColumn
  refine zk_nE (fun v1 h_v1 => ?_)
  rw [zwi (by omega)] at h_v1
  replace h_v1 := h_v1.symm
  subst h_v1
  refine zk_d1 (s_HM_columns _ h_i_row) (fun v2 hp => ?_)
  try dsimp only at hp
  obtain ⟨hpp0, hpp1⟩ := hp
  refine zk_nE (fun v3 h_v3 => ?_)
  rw [zwi (by omega)] at h_v3
  replace h_v3 := h_v3.symm
  subst h_v3
  refine zk_n ?_
  refine zk_d1 (s_HM_in _ _ _ (by omega) (by omega) (by omega)) (fun v5 hp_2 => ?_)
  try dsimp only at hp_2
  have hp_2p0 := hp_2
  refine zk_gb (by omega) ?_
  exact zk_ret ⟨by omega, by omega⟩
theorem s_HM_isChild (x1 : Int) (i_row : Nat → Int) (b_x1 : (-2147483648) ≤ x1 ∧ x1 ≤ 2147483647) (h_i_row : RI i_row) : zok (f_HM_isChild x1 i_row) (fun o => ((o = 1 ∧ 0 ≤ x1 ∧ x1 < i_row 1) ∨ (o = 0 ∧ (x1 < 0 ∨ i_row 1 ≤ x1))) ∧ (0 ≤ i_row 1 ∧ i_row 1 ≤ 6)) := by
  unfold f_HM_isChild
  refine zk_nE (fun v1 h_v1 => ?_)
  rw [zwi (by omega)] at h_v1
  replace h_v1 := h_v1.symm
  subst h_v1
  refine zk_gl 1 rfl (by decide) (by decide) (fun v2 h_v2 => ?_)
  have r_v2 := RI_1 h_i_row
  refine zk_nE (fun v3 h_v3 => ?_)
  rw [zwi (by omega)] at h_v3
  replace h_v3 := h_v3.symm
  subst h_v3
  refine zk_n ?_
  refine zk_d1 (s_HM_in _ _ _ (by omega) (by omega) (by omega)) (fun v5 hp => ?_)
  try dsimp only at hp
  have hpp0 := hp
  refine zk_gb (by omega) ?_
  exact zk_ret ⟨by omega, by omega⟩
theorem s_HM_isParish (x1 : Int) (i_row : Nat → Int) (b_x1 : (-2147483648) ≤ x1 ∧ x1 ≤ 2147483647) (h_i_row : RI i_row) : zok (f_HM_isParish x1 i_row) (fun o => ((o = 1 ∧ 0 ≤ x1 ∧ x1 < i_row 2) ∨ (o = 0 ∧ (x1 < 0 ∨ i_row 2 ≤ x1))) ∧ (0 ≤ i_row 2 ∧ i_row 2 ≤ 6)) := by
  unfold f_HM_isParish
  refine zk_nE (fun v1 h_v1 => ?_)
  rw [zwi (by omega)] at h_v1
  replace h_v1 := h_v1.symm
  subst h_v1
  refine zk_gl 2 rfl (by decide) (by decide) (fun v2 h_v2 => ?_)
  have r_v2 := RI_2 h_i_row
  refine zk_nE (fun v3 h_v3 => ?_)
  rw [zwi (by omega)] at h_v3
  replace h_v3 := h_v3.symm
  subst h_v3
  refine zk_n ?_
  refine zk_d1 (s_HM_in _ _ _ (by omega) (by omega) (by omega)) (fun v5 hp => ?_)
  try dsimp only at hp
  have hpp0 := hp
  refine zk_gb (by omega) ?_
  exact zk_ret ⟨by omega, by omega⟩
theorem s_HM_are (x1 : Int) (x2 : Int) (x3 : Int) (i_row : Nat → Int) (b_x1 : (-2147483648) ≤ x1 ∧ x1 ≤ 2147483647) (b_x2 : (-2147483648) ≤ x2 ∧ x2 ≤ 2147483647) (b_x3 : (-2147483648) ≤ x3 ∧ x3 ≤ 2147483647) (h_i_row : RI i_row) : zok (f_HM_are x1 x2 x3 i_row) (fun o => ((o = 1 ∧ (0 ≤ x1 ∧ x1 < i_row 1) ∧ (0 ≤ x2 ∧ x2 < i_row 0) ∧ (0 ≤ x3 ∧ x3 < i_row 0)) ∨ (o = 0 ∧ ((x1 < 0 ∨ i_row 1 ≤ x1) ∨ (x2 < 0 ∨ i_row 0 ≤ x2) ∨ (x3 < 0 ∨ i_row 0 ≤ x3)))) ∧ (0 ≤ i_row 0 ∧ i_row 0 ≤ 12) ∧ (0 ≤ i_row 1 ∧ i_row 1 ≤ 6)) := by
  unfold f_HM_are
  have q0 := RI_0 h_i_row
  have q1 := RI_1 h_i_row
  refine zk_d1 (s_HM_isChild _ _ (by omega) h_i_row) (fun v1 hp => ?_)
  try dsimp only at hp
  obtain ⟨hpp0, hpp1⟩ := hp
  refine zk_ifc (zci_eqr (by omega)) (fun hc => ?_) (fun hc => ?_)
  · exact zk_ret ⟨by omega, by omega, by omega⟩
  · refine zk_d1 (s_HM_isColumn _ _ (by omega) h_i_row) (fun v2 hp_2 => ?_)
    try dsimp only at hp_2
    obtain ⟨hp_2p0, hp_2p1⟩ := hp_2
    refine zk_ifc (zci_eqr (by omega)) (fun hc_2 => ?_) (fun hc_2 => ?_)
    · exact zk_ret ⟨by omega, by omega, by omega⟩
    · refine zk_d1 (s_HM_isColumn _ _ (by omega) h_i_row) (fun v3 hp_3 => ?_)
      try dsimp only at hp_3
      obtain ⟨hp_3p0, hp_3p1⟩ := hp_3
      refine zk_ifc (zci_eqr (by omega)) (fun hc_3 => ?_) (fun hc_3 => ?_)
      · exact zk_ret ⟨by omega, by omega, by omega⟩
      · exact zk_ret ⟨by omega, by omega, by omega⟩
theorem s_HM_isTerm (x0 : Int) (x1 : Int) (b_x0 : (-2147483648) ≤ x0 ∧ x0 ≤ 2147483647) (b_x1 : (-2147483648) ≤ x1 ∧ x1 ≤ 2147483647) : zok (f_HM_isTerm x0 x1) (fun o => ((o = 1 ∧ ((x0 = 0 ∧ 0 ≤ x1 ∧ x1 ≤ 99) ∨ (x0 = 1 ∧ 1 ≤ x1 ∧ x1 ≤ 9) ∨ (x0 = 2 ∧ 1 ≤ x1 ∧ x1 ≤ 9) ∨ (x0 = 3 ∧ 0 ≤ x1 ∧ x1 ≤ 30))) ∨ (o = 0 ∧ ((x0 = 0 ∧ (x1 < 0 ∨ 99 < x1)) ∨ ((x0 = 1 ∨ x0 = 2) ∧ (x1 < 1 ∨ 9 < x1)) ∨ (x0 = 3 ∧ (x1 < 0 ∨ 30 < x1)) ∨ x0 < 0 ∨ 3 < x0)))) := by
  unfold f_HM_isTerm
  refine zk_ifc (zci_eqr (by omega)) (fun hc => ?_) (fun hc => ?_)
  · refine zk_nE (fun v1 h_v1 => ?_)
    rw [zwi (by omega)] at h_v1
    replace h_v1 := h_v1.symm
    subst h_v1
    refine zk_d1 (s_HM_in _ _ _ (by omega) (by omega) (by omega)) (fun v2 hp => ?_)
    try dsimp only at hp
    have hpp0 := hp
    refine zk_gb (by omega) ?_
    exact zk_ret (by omega)
  · refine zk_ifc (zci_eqr (by omega)) (fun hc_2 => ?_) (fun hc_2 => ?_)
    · refine zk_nE (fun v3 h_v3 => ?_)
      rw [zwi (by omega)] at h_v3
      replace h_v3 := h_v3.symm
      subst h_v3
      refine zk_d1 (s_HM_in _ _ _ (by omega) (by omega) (by omega)) (fun v4 hp_2 => ?_)
      try dsimp only at hp_2
      have hp_2p0 := hp_2
      refine zk_gb (by omega) ?_
      exact zk_ret (by omega)
    · refine zk_ifc (zci_eqr (by omega)) (fun hc_3 => ?_) (fun hc_3 => ?_)
      · refine zk_nE (fun v5 h_v5 => ?_)
        rw [zwi (by omega)] at h_v5
        replace h_v5 := h_v5.symm
        subst h_v5
        refine zk_d1 (s_HM_in _ _ _ (by omega) (by omega) (by omega)) (fun v6 hp_3 => ?_)
        try dsimp only at hp_3
        have hp_3p0 := hp_3
        refine zk_gb (by omega) ?_
        exact zk_ret (by omega)
      · refine zk_ifc (zci_eqr (by omega)) (fun hc_4 => ?_) (fun hc_4 => ?_)
        · refine zk_nE (fun v7 h_v7 => ?_)
          rw [zwi (by omega)] at h_v7
          replace h_v7 := h_v7.symm
          subst h_v7
          refine zk_d1 (s_HM_in _ _ _ (by omega) (by omega) (by omega)) (fun v8 hp_4 => ?_)
          try dsimp only at hp_4
          have hp_4p0 := hp_4
          refine zk_gb (by omega) ?_
          exact zk_ret (by omega)
        · exact zk_ret (by omega)
theorem s_HM_change (x1 : Int) (x2 : Int) (i_status : Int) (i_row : Nat → Int) (b_x1 : 0 ≤ x1 ∧ x1 ≤ 5579) : zok (f_HM_change x1 x2 i_status i_row) (fun o => (o.1 = i_row x1.toNat) ∧ (o.2.1 = 0) ∧ (o.2.2 = zu i_row x1.toNat x2)) := by
  unfold f_HM_change
  refine zk_gv (by omega) (by decide) (fun v1 h_v1 => ?_)
  refine zk_sv (by omega) (by decide) (fun a2 h_a2 => ?_)
  refine zk_ret ?_
  try dsimp only
  exact ⟨by omega, by omega, by first | omega | rfl | assumption | simp_all⟩
theorem s_HM_column (i_thrown : Int) (i_status : Int) (i_refusals : Nat → Int) (i_row : Nat → Int) (h_i_row : RI i_row) : zok (f_HM_column i_thrown i_status i_refusals i_row) (fun o => RI o.2.2.2.2) := by
  unfold f_HM_column
  refine zk_d1 (s_HM_columns _ h_i_row) (fun v1 hp => ?_)
  try dsimp only at hp
  obtain ⟨hpp0, hpp1⟩ := hp
  refine zk_ifc (zci_ne (by omega) (by omega)) (fun hc => ?_) (fun hc => ?_)
  · refine zk_n ?_
    refine zk_sv (by omega) (by decide) (fun a3 h_a3 => ?_)
    have i_a3 : RI a3 := by rw [h_a3]; exact RIz_h h_i_row (by omega) (by omega)
    refine zk_n ?_
    refine zk_sv (by omega) (by decide) (fun a5 h_a5 => ?_)
    have i_a5 : RI a5 := by rw [h_a5]; exact RIz_g i_a3 (by omega) (by omega)
    refine zk_gl 0 rfl (by decide) (by decide) (fun v6 h_v6 => ?_)
    have z_v6_a5 := zu_rd h_a5 (0)
    have z_v6_a3 := zu_rd h_a3 (0)
    have r_v6 := RI_0 i_a5
    refine zk_n ?_
    refine zk_sl 0 rfl (by decide) (by decide) (fun a8 h_a8 => ?_)
    have i_a8 : RI a8 := by rw [h_a8]; exact RIz_0 i_a5 (by omega)
    refine zk_d3 (s_HM_tell _ _ _ (by omega)) (fun v9 v10 a11 hp_2 => ?_)
    try dsimp only at hp_2
    obtain ⟨hp_2p0, hp_2p1⟩ := hp_2
    refine zk_ret ?_
    try dsimp only
    all_goals exact i_a8
  · refine zk_d3 (s_HM_tell _ _ _ (by omega)) (fun v12 v13 a14 hp_3 => ?_)
    try dsimp only at hp_3
    obtain ⟨hp_3p0, hp_3p1⟩ := hp_3
    refine zk_ret ?_
    try dsimp only
    all_goals exact h_i_row
theorem s_HM_stone (x1 : Int) (x2 : Int) (i_thrown : Int) (i_status : Int) (i_refusals : Nat → Int) (i_row : Nat → Int) (b_x1 : (-2147483648) ≤ x1 ∧ x1 ≤ 2147483647) (b_x2 : (-2147483648) ≤ x2 ∧ x2 ≤ 2147483647) (h_i_row : RI i_row) : zok (f_HM_stone x1 x2 i_thrown i_status i_refusals i_row) (fun o => RI o.2.2.2.2 ∧ (∀ j : Nat, (j < 9 ∨ 141 ≤ j) → o.2.2.2.2 j = i_row j)) := by
  unfold f_HM_stone
  refine zk_d1 (s_HM_isWeight _ (by omega)) (fun v1 hp => ?_)
  try dsimp only at hp
  have hpp0 := hp
  refine zk_ifc (zci_ner (by omega)) (fun hc => ?_) (fun hc => ?_)
  · refine zk_d1 (s_HM_isColumn _ _ (by omega) h_i_row) (fun v2 hp_2 => ?_)
    try dsimp only at hp_2
    obtain ⟨hp_2p0, hp_2p1⟩ := hp_2
    refine zk_ifc (zci_ner (by omega)) (fun hc_2 => ?_) (fun hc_2 => ?_)
    · refine zk_n ?_
      refine zk_gv (by omega) (by decide) (fun v4 h_v4 => ?_)
      have r_v4 := RI_h h_i_row (i := (9 + x1)) (by omega)
      refine zk_ifc (zci_ne (by omega) (by omega)) (fun hc_3 => ?_) (fun hc_3 => ?_)
      · refine zk_n ?_
        refine zk_n ?_
        refine zk_n ?_
        refine zk_sv (by omega) (by decide) (fun a8 h_a8 => ?_)
        have i_a8 : RI a8 := by rw [h_a8]; exact RIz_s h_i_row (by omega) (by omega)
        refine zk_n ?_
        refine zk_gv (by omega) (by decide) (fun v10 h_v10 => ?_)
        have z_v10_a8 := zu_rd h_a8 ((9 + x1).toNat)
        have r_v10 := RI_h i_a8 (i := (9 + x1)) (by omega)
        refine zk_n ?_
        refine zk_sv (by omega) (by decide) (fun a12 h_a12 => ?_)
        have i_a12 : RI a12 := by rw [h_a12]; exact RIz_h i_a8 (by omega) (by omega)
        refine zk_n ?_
        refine zk_d3 (s_HM_tell _ _ _ (by omega)) (fun v14 v15 a16 hp_3 => ?_)
        try dsimp only at hp_3
        obtain ⟨hp_3p0, hp_3p1⟩ := hp_3
        refine zk_ret ?_
        try dsimp only
        exact ⟨i_a12, by first | exact fun j _ => rfl | assumption | (intro j hj; simp only [h_a12, h_a8, zu, ↓reduceIte]; (repeat' split) <;> omega)⟩
      · refine zk_d3 (s_HM_tell _ _ _ (by omega)) (fun v17 v18 a19 hp_4 => ?_)
        try dsimp only at hp_4
        obtain ⟨hp_4p0, hp_4p1⟩ := hp_4
        refine zk_ret ?_
        try dsimp only
        exact ⟨h_i_row, by first | exact fun j _ => rfl | assumption | (intro j hj; simp only [zu_eq, zu, ↓reduceIte]; (repeat' split) <;> omega)⟩
    · refine zk_d3 (s_HM_tell _ _ _ (by omega)) (fun v20 v21 a22 hp_5 => ?_)
      try dsimp only at hp_5
      obtain ⟨hp_5p0, hp_5p1⟩ := hp_5
      refine zk_ret ?_
      try dsimp only
      exact ⟨h_i_row, by first | exact fun j _ => rfl | assumption | (intro j hj; simp only [zu_eq, zu, ↓reduceIte]; (repeat' split) <;> omega)⟩
  · refine zk_d3 (s_HM_tell _ _ _ (by omega)) (fun v23 v24 a25 hp_6 => ?_)
    try dsimp only at hp_6
    obtain ⟨hp_6p0, hp_6p1⟩ := hp_6
    refine zk_ret ?_
    try dsimp only
    exact ⟨h_i_row, by first | exact fun j _ => rfl | assumption | (intro j hj; simp only [zu_eq, zu, ↓reduceIte]; (repeat' split) <;> omega)⟩
theorem s_HM_lift (x1 : Int) (i_thrown : Int) (i_status : Int) (i_refusals : Nat → Int) (i_row : Nat → Int) (b_x1 : (-2147483648) ≤ x1 ∧ x1 ≤ 2147483647) (h_i_row : RI i_row) : zok (f_HM_lift x1 i_thrown i_status i_refusals i_row) (fun o => RI o.2.2.2.2 ∧ (∀ j : Nat, (j < 9 ∨ 141 ≤ j) → o.2.2.2.2 j = i_row j)) := by
  unfold f_HM_lift
  refine zk_d1 (s_HM_isColumn _ _ (by omega) h_i_row) (fun v1 hp => ?_)
  try dsimp only at hp
  obtain ⟨hpp0, hpp1⟩ := hp
  refine zk_ifc (zci_ner (by omega)) (fun hc => ?_) (fun hc => ?_)
  · refine zk_n ?_
    refine zk_gv (by omega) (by decide) (fun v3 h_v3 => ?_)
    have r_v3 := RI_h h_i_row (i := (9 + x1)) (by omega)
    refine zk_ifc (zci_ner (by omega)) (fun hc_2 => ?_) (fun hc_2 => ?_)
    · refine zk_n ?_
      refine zk_gv (by omega) (by decide) (fun v5 h_v5 => ?_)
      have r_v5 := RI_h h_i_row (i := (9 + x1)) (by omega)
      refine zk_n ?_
      refine zk_sv (by omega) (by decide) (fun a7 h_a7 => ?_)
      have i_a7 : RI a7 := by rw [h_a7]; exact RIz_h h_i_row (by omega) (by omega)
      refine zk_n ?_
      refine zk_n ?_
      refine zk_n ?_
      refine zk_n ?_
      refine zk_gv (by omega) (by decide) (fun v12 h_v12 => ?_)
      have z_v12_a7 := zu_rd h_a7 ((((21 + (10 * x1)) + v3) - 1).toNat)
      have r_v12 := RI_s i_a7 (i := (((21 + (10 * x1)) + v3) - 1)) (by omega)
      refine zk_d3 (s_HM_tell _ _ _ (by omega)) (fun v13 v14 a15 hp_2 => ?_)
      try dsimp only at hp_2
      obtain ⟨hp_2p0, hp_2p1⟩ := hp_2
      refine zk_ret ?_
      try dsimp only
      exact ⟨i_a7, by first | exact fun j _ => rfl | assumption | (intro j hj; simp only [h_a7, zu, ↓reduceIte]; (repeat' split) <;> omega)⟩
    · refine zk_d3 (s_HM_tell _ _ _ (by omega)) (fun v16 v17 a18 hp_3 => ?_)
      try dsimp only at hp_3
      obtain ⟨hp_3p0, hp_3p1⟩ := hp_3
      refine zk_ret ?_
      try dsimp only
      exact ⟨h_i_row, by first | exact fun j _ => rfl | assumption | (intro j hj; simp only [zu_eq, zu, ↓reduceIte]; (repeat' split) <;> omega)⟩
  · refine zk_d3 (s_HM_tell _ _ _ (by omega)) (fun v19 v20 a21 hp_4 => ?_)
    try dsimp only at hp_4
    obtain ⟨hp_4p0, hp_4p1⟩ := hp_4
    refine zk_ret ?_
    try dsimp only
    exact ⟨h_i_row, by first | exact fun j _ => rfl | assumption | (intro j hj; simp only [zu_eq, zu, ↓reduceIte]; (repeat' split) <;> omega)⟩
theorem s_HM_of (x1 : Int) (x2 : Int) (i_row : Nat → Int) (i_thrown : Int) (b_x1 : (-2147483648) ≤ x1 ∧ x1 ≤ 2147483647) (b_x2 : (-2147483648) ≤ x2 ∧ x2 ≤ 2147483647) (h_i_row : RI i_row) : zok (f_HM_of x1 x2 i_row i_thrown) (fun o => True) := by
  unfold f_HM_of
  refine zk_d1 (s_HM_isColumn _ _ (by omega) h_i_row) (fun v1 hp => ?_)
  try dsimp only at hp
  obtain ⟨hpp0, hpp1⟩ := hp
  refine zk_ifc (zci_ner (by omega)) (fun hc => ?_) (fun hc => ?_)
  · refine zk_ifc (zci_ne (by omega) (by omega)) (fun hc_2 => ?_) (fun hc_2 => ?_)
    · refine zk_nE (fun v2 h_v2 => ?_)
      rw [zwi (by omega)] at h_v2
      replace h_v2 := h_v2.symm
      subst h_v2
      refine zk_n ?_
      refine zk_gv (by omega) (by decide) (fun v4 h_v4 => ?_)
      have r_v4 := RI_h h_i_row (i := (9 + x1)) (by omega)
      refine zk_nE (fun v5 h_v5 => ?_)
      rw [zwi (by omega)] at h_v5
      replace h_v5 := h_v5.symm
      subst h_v5
      refine zk_n ?_
      refine zk_d1 (s_HM_in _ _ _ (by omega) (by omega) (by omega)) (fun v7 hp_2 => ?_)
      try dsimp only at hp_2
      have hp_2p0 := hp_2
      refine zk_ifc (zci_eqr (by omega)) (fun hc_3 => ?_) (fun hc_3 => ?_)
      · exact zk_ret trivial
      · refine zk_n ?_
        refine zk_n ?_
        refine zk_n ?_
        refine zk_gv (by omega) (by decide) (fun v11 h_v11 => ?_)
        have r_v11 := RI_s h_i_row (i := ((21 + (10 * x1)) + x2)) (by omega)
        exact zk_ret trivial
    · refine zk_n ?_
      refine zk_gv (by omega) (by decide) (fun v13 h_v13 => ?_)
      have r_v13 := RI_h h_i_row (i := (9 + x1)) (by omega)
      exact zk_ret trivial
  · exact zk_ret trivial
theorem s_HM_weight_19 (i_row : Nat → Int) (h_i_row : RI i_row) : ∀ (n : Nat) (x1 : Int) (x2 : Int) (x3 : Int) (i_thrown : Int), (0 ≤ x1 ∧ x1 ≤ 11) → (0 ≤ x3 ∧ x3 ≤ 10) → (11 - x3) < (n : Int) → zok (f_HM_weight_19 i_row n x1 x2 x3 i_thrown) (fun o => True) := by
  intro n
  induction n with
  | zero => intro x1 x2 x3 i_thrown b_x1 b_x3 hm; exfalso; omega
  | succ n ih =>
    intro x1 x2 x3 i_thrown b_x1 b_x3 hm
    show zok (f_HM_weight_19_b i_row (f_HM_weight_19 i_row n) x1 x2 x3 i_thrown) _
    unfold f_HM_weight_19_b
    refine zk_n ?_
    refine zk_gv (by omega) (by decide) (fun v2 h_v2 => ?_)
    have r_v2 := RI_h h_i_row (i := (9 + x1)) (by omega)
    refine zk_ifc (zci_le (by omega) (by omega)) (fun hc => ?_) (fun hc => ?_)
    · exact zk_ret trivial
    · refine zk_n ?_
      refine zk_n ?_
      refine zk_n ?_
      refine zk_gv (by omega) (by decide) (fun v6 h_v6 => ?_)
      have r_v6 := RI_s h_i_row (i := ((21 + (10 * x1)) + x3)) (by omega)
      refine zk_n ?_
      refine zk_n ?_
      exact ih _ _ _ _ (by omega) (by omega) (by omega)
theorem s_HM_weight (x1 : Int) (i_row : Nat → Int) (i_thrown : Int) (b_x1 : (-2147483648) ≤ x1 ∧ x1 ≤ 2147483647) (h_i_row : RI i_row) : zok (f_HM_weight x1 i_row i_thrown) (fun o => True) := by
  unfold f_HM_weight
  refine zk_d1 (s_HM_isColumn _ _ (by omega) h_i_row) (fun v1 hp => ?_)
  try dsimp only at hp
  obtain ⟨hpp0, hpp1⟩ := hp
  refine zk_ifc (zci_ner (by omega)) (fun hc => ?_) (fun hc => ?_)
  · exact s_HM_weight_19 _ h_i_row zfu _ _ _ _ (by omega) (by omega) (by unfold zfu; omega)
  · exact zk_ret trivial
theorem s_HM_child (x1 : Int) (i_thrown : Int) (i_status : Int) (i_refusals : Nat → Int) (i_row : Nat → Int) (b_x1 : (-2147483648) ≤ x1 ∧ x1 ≤ 2147483647) (h_i_row : RI i_row) : zok (f_HM_child x1 i_thrown i_status i_refusals i_row) (fun o => RI o.2.2.2.2) := by
  unfold f_HM_child
  refine zk_nE (fun v1 h_v1 => ?_)
  rw [zwi (by omega)] at h_v1
  replace h_v1 := h_v1.symm
  subst h_v1
  refine zk_d1 (s_HM_in _ _ _ (by omega) (by omega) (by omega)) (fun v2 hp => ?_)
  try dsimp only at hp
  have hpp0 := hp
  refine zk_ifc (zci_ner (by omega)) (fun hc => ?_) (fun hc => ?_)
  · refine zk_gl 1 rfl (by decide) (by decide) (fun v3 h_v3 => ?_)
    have r_v3 := RI_1 h_i_row
    refine zk_ifc (zci_ne (by omega) (by omega)) (fun hc_2 => ?_) (fun hc_2 => ?_)
    · refine zk_n ?_
      refine zk_n ?_
      refine zk_sv (by omega) (by decide) (fun a6 h_a6 => ?_)
      have i_a6 : RI a6 := by rw [h_a6]; exact RIz_c h_i_row (by omega) (by omega)
      refine zk_n ?_
      refine zk_n ?_
      refine zk_n ?_
      refine zk_sv (by omega) (by decide) (fun a10 h_a10 => ?_)
      have i_a10 : RI a10 := by rw [h_a10]; exact RIz_c i_a6 (by omega) (by omega)
      refine zk_n ?_
      refine zk_n ?_
      refine zk_n ?_
      refine zk_sv (by omega) (by decide) (fun a14 h_a14 => ?_)
      have i_a14 : RI a14 := by rw [h_a14]; exact RIz_c i_a10 (by omega) (by omega)
      refine zk_gl 1 rfl (by decide) (by decide) (fun v15 h_v15 => ?_)
      have z_v15_a14 := zu_rd h_a14 (1)
      have z_v15_a10 := zu_rd h_a10 (1)
      have z_v15_a6 := zu_rd h_a6 (1)
      have r_v15 := RI_1 i_a14
      refine zk_n ?_
      refine zk_sl 1 rfl (by decide) (by decide) (fun a17 h_a17 => ?_)
      have i_a17 : RI a17 := by rw [h_a17]; exact RIz_1 i_a14 (by omega)
      refine zk_d3 (s_HM_tell _ _ _ (by omega)) (fun v18 v19 a20 hp_2 => ?_)
      try dsimp only at hp_2
      obtain ⟨hp_2p0, hp_2p1⟩ := hp_2
      refine zk_ret ?_
      try dsimp only
      all_goals exact i_a17
    · refine zk_d3 (s_HM_tell _ _ _ (by omega)) (fun v21 v22 a23 hp_3 => ?_)
      try dsimp only at hp_3
      obtain ⟨hp_3p0, hp_3p1⟩ := hp_3
      refine zk_ret ?_
      try dsimp only
      all_goals exact h_i_row
  · refine zk_d3 (s_HM_tell _ _ _ (by omega)) (fun v24 v25 a26 hp_4 => ?_)
    try dsimp only at hp_4
    obtain ⟨hp_4p0, hp_4p1⟩ := hp_4
    refine zk_ret ?_
    try dsimp only
    all_goals exact h_i_row
theorem s_HM_expel (x1 : Int) (x2 : Int) (i_thrown : Int) (i_status : Int) (i_refusals : Nat → Int) (i_row : Nat → Int) (b_x1 : (-2147483648) ≤ x1 ∧ x1 ≤ 2147483647) (b_x2 : (-2147483648) ≤ x2 ∧ x2 ≤ 2147483647) (h_i_row : RI i_row) : zok (f_HM_expel x1 x2 i_thrown i_status i_refusals i_row) (fun o => RI o.2.2.2.2) := by
  unfold f_HM_expel
  refine zk_nE (fun v1 h_v1 => ?_)
  rw [zwi (by omega)] at h_v1
  replace h_v1 := h_v1.symm
  subst h_v1
  refine zk_d1 (s_HM_in _ _ _ (by omega) (by omega) (by omega)) (fun v2 hp => ?_)
  try dsimp only at hp
  have hpp0 := hp
  refine zk_ifc (zci_ner (by omega)) (fun hc => ?_) (fun hc => ?_)
  · refine zk_d1 (s_HM_isChild _ _ (by omega) h_i_row) (fun v3 hp_2 => ?_)
    try dsimp only at hp_2
    obtain ⟨hp_2p0, hp_2p1⟩ := hp_2
    refine zk_ifc (zci_eqr (by omega)) (fun hc_2 => ?_) (fun hc_2 => ?_)
    · refine zk_d3 (s_HM_tell _ _ _ (by omega)) (fun v4 v5 a6 hp_3 => ?_)
      try dsimp only at hp_3
      obtain ⟨hp_3p0, hp_3p1⟩ := hp_3
      refine zk_ret ?_
      try dsimp only
      all_goals exact h_i_row
    · refine zk_n ?_
      refine zk_n ?_
      refine zk_n ?_
      refine zk_d3 (s_HM_change _ _ _ _ (by omega)) (fun v10 v11 a12 hp_4 => ?_)
      try dsimp only at hp_4
      obtain ⟨hp_4p0, hp_4p1, hp_4p2⟩ := hp_4
      have i_a12 : RI a12 := by rw [hp_4p2]; exact RIz_c h_i_row (by omega) (by omega)
      refine zk_ret ?_
      try dsimp only
      all_goals exact i_a12
  · refine zk_d3 (s_HM_tell _ _ _ (by omega)) (fun v13 v14 a15 hp_5 => ?_)
    try dsimp only at hp_5
    obtain ⟨hp_5p0, hp_5p1⟩ := hp_5
    refine zk_ret ?_
    try dsimp only
    all_goals exact h_i_row
theorem s_HM_fact (x1 : Int) (x2 : Int) (i_row : Nat → Int) (i_thrown : Int) (b_x1 : (-2147483648) ≤ x1 ∧ x1 ≤ 2147483647) (b_x2 : (-2147483648) ≤ x2 ∧ x2 ≤ 2147483647) (h_i_row : RI i_row) : zok (f_HM_fact x1 x2 i_row i_thrown) (fun o => True) := by
  unfold f_HM_fact
  refine zk_d1 (s_HM_isChild _ _ (by omega) h_i_row) (fun v1 hp => ?_)
  try dsimp only at hp
  obtain ⟨hpp0, hpp1⟩ := hp
  refine zk_ifc (zci_eqr (by omega)) (fun hc => ?_) (fun hc => ?_)
  · exact zk_ret trivial
  · refine zk_nE (fun v2 h_v2 => ?_)
    rw [zwi (by omega)] at h_v2
    replace h_v2 := h_v2.symm
    subst h_v2
    refine zk_d1 (s_HM_in _ _ _ (by omega) (by omega) (by omega)) (fun v3 hp_2 => ?_)
    try dsimp only at hp_2
    have hp_2p0 := hp_2
    refine zk_ifc (zci_eqr (by omega)) (fun hc_2 => ?_) (fun hc_2 => ?_)
    · exact zk_ret trivial
    · refine zk_n ?_
      refine zk_n ?_
      refine zk_n ?_
      refine zk_gv (by omega) (by decide) (fun v7 h_v7 => ?_)
      have r_v7 := RI_c h_i_row (i := ((153 + (3 * x1)) + x2)) (by omega)
      exact zk_ret trivial
theorem s_HM_parish (x1 : Int) (i_thrown : Int) (i_status : Int) (i_refusals : Nat → Int) (i_row : Nat → Int) (b_x1 : (-2147483648) ≤ x1 ∧ x1 ≤ 2147483647) (h_i_row : RI i_row) : zok (f_HM_parish x1 i_thrown i_status i_refusals i_row) (fun o => RI o.2.2.2.2) := by
  unfold f_HM_parish
  refine zk_d1 (s_HM_isColumn _ _ (by omega) h_i_row) (fun v1 hp => ?_)
  try dsimp only at hp
  obtain ⟨hpp0, hpp1⟩ := hp
  refine zk_ifc (zci_ner (by omega)) (fun hc => ?_) (fun hc => ?_)
  · refine zk_gl 2 rfl (by decide) (by decide) (fun v2 h_v2 => ?_)
    have r_v2 := RI_2 h_i_row
    refine zk_ifc (zci_ne (by omega) (by omega)) (fun hc_2 => ?_) (fun hc_2 => ?_)
    · refine zk_n ?_
      refine zk_sv (by omega) (by decide) (fun a4 h_a4 => ?_)
      have i_a4 : RI a4 := by rw [h_a4]; exact RIz_p h_i_row (by omega) (by omega)
      refine zk_gl 2 rfl (by decide) (by decide) (fun v5 h_v5 => ?_)
      have z_v5_a4 := zu_rd h_a4 (2)
      have r_v5 := RI_2 i_a4
      refine zk_n ?_
      refine zk_sl 2 rfl (by decide) (by decide) (fun a7 h_a7 => ?_)
      have i_a7 : RI a7 := by rw [h_a7]; exact RIz_2 i_a4 (by omega)
      refine zk_d3 (s_HM_tell _ _ _ (by omega)) (fun v8 v9 a10 hp_2 => ?_)
      try dsimp only at hp_2
      obtain ⟨hp_2p0, hp_2p1⟩ := hp_2
      refine zk_ret ?_
      try dsimp only
      all_goals exact i_a7
    · refine zk_d3 (s_HM_tell _ _ _ (by omega)) (fun v11 v12 a13 hp_3 => ?_)
      try dsimp only at hp_3
      obtain ⟨hp_3p0, hp_3p1⟩ := hp_3
      refine zk_ret ?_
      try dsimp only
      all_goals exact h_i_row
  · refine zk_d3 (s_HM_tell _ _ _ (by omega)) (fun v14 v15 a16 hp_4 => ?_)
    try dsimp only at hp_4
    obtain ⟨hp_4p0, hp_4p1⟩ := hp_4
    refine zk_ret ?_
    try dsimp only
    all_goals exact h_i_row
theorem s_HM_terms (x1 : Int) (x2 : Int) (i_thrown : Int) (i_status : Int) (i_refusals : Nat → Int) (i_row : Nat → Int) (b_x1 : (-2147483648) ≤ x1 ∧ x1 ≤ 2147483647) (b_x2 : (-2147483648) ≤ x2 ∧ x2 ≤ 2147483647) (h_i_row : RI i_row) : zok (f_HM_terms x1 x2 i_thrown i_status i_refusals i_row) (fun o => RI o.2.2.2.2) := by
  unfold f_HM_terms
  refine zk_d1 (s_HM_isTerm _ _ (by omega) (by omega)) (fun v1 hp => ?_)
  try dsimp only at hp
  have hpp0 := hp
  refine zk_ifc (zci_eqr (by omega)) (fun hc => ?_) (fun hc => ?_)
  · refine zk_d3 (s_HM_tell _ _ _ (by omega)) (fun v2 v3 a4 hp_2 => ?_)
    try dsimp only at hp_2
    obtain ⟨hp_2p0, hp_2p1⟩ := hp_2
    refine zk_ret ?_
    try dsimp only
    all_goals exact h_i_row
  · refine zk_n ?_
    refine zk_d3 (s_HM_change _ _ _ _ (by omega)) (fun v6 v7 a8 hp_3 => ?_)
    try dsimp only at hp_3
    obtain ⟨hp_3p0, hp_3p1, hp_3p2⟩ := hp_3
    have i_a8 : RI a8 := by rw [hp_3p2]; exact RIz_t h_i_row (by omega) (by omega)
    refine zk_ret ?_
    try dsimp only
    all_goals exact i_a8
theorem s_HM_row_56 (i_tape : Nat → Int) (h_i_tape : zR i_tape 0 255) : ∀ (n : Nat) (x1 : Int) (x2 : Int) (x3 : Int) (x4 : Int) (i_thrown : Int) (i_status : Int) (i_gravel : Int) (i_taped : Int) (i_refusals : Nat → Int) (i_row : Nat → Int), (1 ≤ x1 ∧ x1 ≤ 400) → (0 ≤ x2 ∧ x2 ≤ 11) → (0 ≤ x3 ∧ x3 ≤ 400) → (1 ≤ x4 ∧ x4 ≤ 400) → (0 ≤ i_taped ∧ i_taped ≤ 400) → (RI i_row) → (x4 ≤ x1) → (x3 ≤ x4) → (401 - x4) < (n : Int) → zok (f_HM_row_56 i_tape n x1 x2 x3 x4 i_thrown i_status i_gravel i_taped i_refusals i_row) (fun o => (0 ≤ o.2.2.2.2.1 ∧ o.2.2.2.2.1 ≤ 400) ∧ RI o.2.2.2.2.2.2 ∧ (o.2.2.2.2.1 = i_taped) ∧ (∀ j : Nat, (j < 9 ∨ 141 ≤ j) → o.2.2.2.2.2.2 j = i_row j)) := by
  intro n
  induction n with
  | zero => intro x1 x2 x3 x4 i_thrown i_status i_gravel i_taped i_refusals i_row b_x1 b_x2 b_x3 b_x4 b_i_taped h_i_row p_0 p_1 hm; exfalso; omega
  | succ n ih =>
    intro x1 x2 x3 x4 i_thrown i_status i_gravel i_taped i_refusals i_row b_x1 b_x2 b_x3 b_x4 b_i_taped h_i_row p_0 p_1 hm
    show zok (f_HM_row_56_b i_tape (f_HM_row_56 i_tape n) x1 x2 x3 x4 i_thrown i_status i_gravel i_taped i_refusals i_row) _
    unfold f_HM_row_56_b
    refine zk_ifc (zci_le (by omega) (by omega)) (fun hc => ?_) (fun hc => ?_)
    · refine zk_d3 (s_HM_tell _ _ _ (by omega)) (fun v1 v2 a3 hp => ?_)
      try dsimp only at hp
      obtain ⟨hpp0, hpp1⟩ := hp
      refine zk_ret ?_
      try dsimp only
      exact ⟨by omega, h_i_row, by omega, by first | exact fun j _ => rfl | assumption | (intro j hj; simp only [zu_eq, zu, ↓reduceIte]; (repeat' split) <;> omega)⟩
    · refine zk_gv (by omega) (by decide) (fun v4 h_v4 => ?_)
      have r_v4 := h_i_tape (x4.toNat)
      refine zk_d1 (s_HM_isWeight _ (by omega)) (fun v5 hp_2 => ?_)
      try dsimp only at hp_2
      have hp_2p0 := hp_2
      refine zk_ifc (zci_eqr (by omega)) (fun hc_2 => ?_) (fun hc_2 => ?_)
      · unfold f_HM_row_137
        refine zk_n ?_
        unfold f_HM_row_147
        refine zk_n ?_
        refine zok_mono (ih _ _ _ _ _ _ _ _ _ _ (by omega) (by omega) (by omega) (by omega) (by omega) h_i_row (by omega) (by omega) (by omega)) (fun o ho => ?_)
        try dsimp only at ho
        obtain ⟨ho_0, ho_1, ho_2, ho_3⟩ := ho
        exact ⟨by omega, ho_1, by omega, by intro j hj; first | exact ho_3 j hj | (rw [ho_3 j hj]; simp only [zu_eq, zu, ↓reduceIte]; (repeat' split) <;> omega)⟩
      · refine zk_n ?_
        refine zk_gv (by omega) (by decide) (fun v7 h_v7 => ?_)
        have r_v7 := RI_h h_i_row (i := (9 + x2)) (by omega)
        refine zk_ifc (zci_le (by omega) (by omega)) (fun hc_3 => ?_) (fun hc_3 => ?_)
        · unfold f_HM_row_137
          refine zk_n ?_
          unfold f_HM_row_147
          refine zk_n ?_
          refine zok_mono (ih _ _ _ _ _ _ _ _ _ _ (by omega) (by omega) (by omega) (by omega) (by omega) h_i_row (by omega) (by omega) (by omega)) (fun o ho => ?_)
          try dsimp only at ho
          obtain ⟨ho_0, ho_1, ho_2, ho_3⟩ := ho
          exact ⟨by omega, ho_1, by omega, by intro j hj; first | exact ho_3 j hj | (rw [ho_3 j hj]; simp only [zu_eq, zu, ↓reduceIte]; (repeat' split) <;> omega)⟩
        · refine zk_n ?_
          refine zk_n ?_
          refine zk_n ?_
          refine zk_gv (by omega) (by decide) (fun v11 h_v11 => ?_)
          have r_v11 := RI_h h_i_row (i := (9 + x2)) (by omega)
          refine zk_n ?_
          refine zk_gv (by omega) (by decide) (fun v13 h_v13 => ?_)
          have r_v13 := h_i_tape (x4.toNat)
          refine zk_sv (by omega) (by decide) (fun a14 h_a14 => ?_)
          have i_a14 : RI a14 := by rw [h_a14]; exact RIz_s h_i_row (by omega) (by omega)
          refine zk_n ?_
          refine zk_gv (by omega) (by decide) (fun v16 h_v16 => ?_)
          have z_v16_a14 := zu_rd h_a14 ((9 + x2).toNat)
          have r_v16 := RI_h i_a14 (i := (9 + x2)) (by omega)
          refine zk_n ?_
          refine zk_sv (by omega) (by decide) (fun a18 h_a18 => ?_)
          have i_a18 : RI a18 := by rw [h_a18]; exact RIz_h i_a14 (by omega) (by omega)
          refine zk_n ?_
          unfold f_HM_row_147
          refine zk_n ?_
          refine zok_mono (ih _ _ _ _ _ _ _ _ _ _ (by omega) (by omega) (by omega) (by omega) (by omega) i_a18 (by omega) (by omega) (by omega)) (fun o ho => ?_)
          try dsimp only at ho
          obtain ⟨ho_0, ho_1, ho_2, ho_3⟩ := ho
          exact ⟨by omega, ho_1, by omega, by intro j hj; first | exact ho_3 j hj | (rw [ho_3 j hj]; simp only [h_a18, h_a14, zu, ↓reduceIte]; (repeat' split) <;> omega)⟩
theorem s_HM_row (i_tape : Nat → Int) (i_thrown : Int) (i_status : Int) (i_gravel : Int) (i_taped : Int) (i_refusals : Nat → Int) (i_row : Nat → Int) (h_i_tape : zR i_tape 0 255) (b_i_taped : 0 ≤ i_taped ∧ i_taped ≤ 400) (h_i_row : RI i_row) : zok (f_HM_row i_tape i_thrown i_status i_gravel i_taped i_refusals i_row) (fun o => (0 ≤ o.2.2.2.2.1 ∧ o.2.2.2.2.1 ≤ 400) ∧ RI o.2.2.2.2.2.2 ∧ (o.2.2.2.2.1 = 0) ∧ (∀ j : Nat, (j < 9 ∨ 141 ≤ j) → o.2.2.2.2.2.2 j = i_row j)) := by
  unfold f_HM_row
  refine zk_ifc (zci_eqr (by omega)) (fun hc => ?_) (fun hc => ?_)
  · unfold f_HM_row_32
    refine zk_d3 (s_HM_tell _ _ _ (by omega)) (fun v1 v2 a3 hp => ?_)
    try dsimp only at hp
    obtain ⟨hpp0, hpp1⟩ := hp
    refine zk_ret ?_
    try dsimp only
    exact ⟨by omega, h_i_row, by omega, by first | exact fun j _ => rfl | assumption | (intro j hj; simp only [zu_eq, zu, ↓reduceIte]; (repeat' split) <;> omega)⟩
  · refine zk_gl 0 rfl (by decide) (by decide) (fun v1_2 h_v1_2 => ?_)
    have r_v1_2 := h_i_tape (0)
    refine zk_d1 (s_HM_isColumn _ _ (by omega) h_i_row) (fun v2_2 hp_2 => ?_)
    try dsimp only at hp_2
    obtain ⟨hp_2p0, hp_2p1⟩ := hp_2
    refine zk_ifc (zci_ner (by omega)) (fun hc_2 => ?_) (fun hc_2 => ?_)
    · refine zk_gl 0 rfl (by decide) (by decide) (fun v3 h_v3 => ?_)
      have r_v3 := h_i_tape (0)
      refine zok_mono (s_HM_row_56 _ h_i_tape zfu _ _ _ _ _ _ _ _ _ _ (by omega) (by omega) (by omega) (by omega) (by omega) h_i_row (by omega) (by omega) (by unfold zfu; omega)) (fun o ho => ?_)
      try dsimp only at ho
      obtain ⟨ho_0, ho_1, ho_2, ho_3⟩ := ho
      exact ⟨by omega, ho_1, by omega, by intro j hj; first | exact ho_3 j hj | (rw [ho_3 j hj]; simp only [zu_eq, zu, ↓reduceIte]; (repeat' split) <;> omega)⟩
    · unfold f_HM_row_32
      refine zk_d3 (s_HM_tell _ _ _ (by omega)) (fun v1_3 v2_3 a3_2 hp_3 => ?_)
      try dsimp only at hp_3
      obtain ⟨hp_3p0, hp_3p1⟩ := hp_3
      refine zk_ret ?_
      try dsimp only
      exact ⟨by omega, h_i_row, by omega, by first | exact fun j _ => rfl | assumption | (intro j hj; simp only [zu_eq, zu, ↓reduceIte]; (repeat' split) <;> omega)⟩
theorem s_HM_gravel (i_gravel : Int) (i_thrown : Int)  : zok (f_HM_gravel i_gravel i_thrown) (fun o => True) := by
  unfold f_HM_gravel
  exact zk_ret trivial
theorem s_HM_four_3   : ∀ (n : Nat) (x1 : Int) (x2 : Int) (i_taped : Int) (i_tape : Nat → Int), ((-2147483648) ≤ x1 ∧ x1 ≤ 2147483647) → ((-8) ≤ x2 ∧ x2 ≤ 24) → (0 ≤ i_taped ∧ i_taped ≤ 400) → (zR i_tape 0 255) → (x2 % 8 = 0) → (8 * i_taped + x2 ≤ 3192) → (x2 + 9) < (n : Int) → zok (f_HM_four_3  n x1 x2 i_taped i_tape) (fun o => zR o.2 0 255 ∧ (8 * o.1 - 8 = 8 * i_taped + x2)) := by
  intro n
  induction n with
  | zero => intro x1 x2 i_taped i_tape b_x1 b_x2 b_i_taped h_i_tape p_0 p_1 hm; exfalso; omega
  | succ n ih =>
    intro x1 x2 i_taped i_tape b_x1 b_x2 b_i_taped h_i_tape p_0 p_1 hm
    show zok (f_HM_four_3_b  (f_HM_four_3  n) x1 x2 i_taped i_tape) _
    unfold f_HM_four_3_b
    refine zk_ifc (zci_ltr (by omega)) (fun hc => ?_) (fun hc => ?_)
    · refine zk_ret ?_
      try dsimp only
      exact ⟨h_i_tape, by omega⟩
    · refine zk_nE (fun v1 h_v1 => ?_)
      have r_v1 := zi_shr_f x1 x2; rw [← h_v1] at r_v1
      refine zk_nE (fun v2 h_v2 => ?_)
      have r_v2 := zi_and_m v1 (m := 255) (by decide); rw [← h_v2] at r_v2
      refine zk_sv (by omega) (by decide) (fun a3 h_a3 => ?_)
      have i_a3 : zR a3 0 255 := by rw [h_a3]; exact zR_zu h_i_tape (by decide) (by decide) (by omega)
      refine zk_n ?_
      refine zk_n ?_
      refine zok_mono (ih _ _ _ _ (by omega) (by omega) (by omega) i_a3 (by omega) (by omega) (by omega)) (fun o ho => ?_)
      try dsimp only at ho
      obtain ⟨ho_0, ho_1⟩ := ho
      exact ⟨ho_0, by omega⟩
theorem s_HM_four (x1 : Int) (i_taped : Int) (i_tape : Nat → Int) (b_x1 : (-2147483648) ≤ x1 ∧ x1 ≤ 2147483647) (b_i_taped : 0 ≤ i_taped ∧ i_taped ≤ 396) (h_i_tape : zR i_tape 0 255) : zok (f_HM_four x1 i_taped i_tape) (fun o => zR o.2 0 255 ∧ (o.1 = i_taped + 4)) := by
  unfold f_HM_four
  refine zok_mono (s_HM_four_3 zfu _ _ _ _ (by omega) (by omega) (by omega) h_i_tape (by omega) (by omega) (by unfold zfu; omega)) (fun o ho => ?_)
  try dsimp only at ho
  obtain ⟨ho_0, ho_1⟩ := ho
  exact ⟨ho_0, by omega⟩
theorem s_HM_feed (x1 : Int) (x2 : Int) (x3 : Int) (x4 : Int) (x5 : Int) (i_thrown : Int) (i_taped : Int) (i_tape : Nat → Int) (b_x1 : (-2147483648) ≤ x1 ∧ x1 ≤ 2147483647) (b_x2 : (-2147483648) ≤ x2 ∧ x2 ≤ 2147483647) (b_x3 : (-2147483648) ≤ x3 ∧ x3 ≤ 2147483647) (b_x4 : (-2147483648) ≤ x4 ∧ x4 ≤ 2147483647) (b_x5 : (-2147483648) ≤ x5 ∧ x5 ≤ 2147483647) (b_i_taped : 0 ≤ i_taped ∧ i_taped ≤ 400) (h_i_tape : zR i_tape 0 255) : zok (f_HM_feed x1 x2 x3 x4 x5 i_thrown i_taped i_tape) (fun o => (0 ≤ o.2.2.1 ∧ o.2.2.1 ≤ 400) ∧ zR o.2.2.2 0 255 ∧ ((i_taped + 20 ≤ 400 ∧ o.1 = i_taped + 20 ∧ o.2.2.1 = i_taped + 20) ∨ (400 < i_taped + 20 ∧ o.1 = -1 ∧ o.2.2.1 = i_taped))) := by
  unfold f_HM_feed
  refine zk_n ?_
  refine zk_ifc (zci_le (by omega) (by omega)) (fun hc => ?_) (fun hc => ?_)
  · refine zk_d2 (s_HM_four _ _ _ (by omega) (by omega) h_i_tape) (fun v2 a3 hp => ?_)
    try dsimp only at hp
    obtain ⟨hpp0, hpp1⟩ := hp
    refine zk_d2 (s_HM_four _ _ _ (by omega) (by omega) hpp0) (fun v4 a5 hp_2 => ?_)
    try dsimp only at hp_2
    obtain ⟨hp_2p0, hp_2p1⟩ := hp_2
    refine zk_d2 (s_HM_four _ _ _ (by omega) (by omega) hp_2p0) (fun v6 a7 hp_3 => ?_)
    try dsimp only at hp_3
    obtain ⟨hp_3p0, hp_3p1⟩ := hp_3
    refine zk_d2 (s_HM_four _ _ _ (by omega) (by omega) hp_3p0) (fun v8 a9 hp_4 => ?_)
    try dsimp only at hp_4
    obtain ⟨hp_4p0, hp_4p1⟩ := hp_4
    refine zk_d2 (s_HM_four _ _ _ (by omega) (by omega) hp_4p0) (fun v10 a11 hp_5 => ?_)
    try dsimp only at hp_5
    obtain ⟨hp_5p0, hp_5p1⟩ := hp_5
    refine zk_ret ?_
    try dsimp only
    exact ⟨by omega, hp_5p0, by omega⟩
  · refine zk_ret ?_
    try dsimp only
    exact ⟨by omega, h_i_tape, by omega⟩
theorem s_HM_end (x1 : Int) (i_thrown : Int) (i_taped : Int) (b_x1 : (-2147483648) ≤ x1 ∧ x1 ≤ 2147483647) (b_i_taped : 0 ≤ i_taped ∧ i_taped ≤ 400) : zok (f_HM_end x1 i_thrown i_taped) (fun o => (0 ≤ o.2.2 ∧ o.2.2 ≤ 400)) := by
  unfold f_HM_end
  refine zk_ifc (zci_ltr (by omega)) (fun hc => ?_) (fun hc => ?_)
  · refine zk_ret ?_
    try dsimp only
    all_goals exact (by omega)
  · refine zk_ifc (zci_le (by omega) (by omega)) (fun hc_2 => ?_) (fun hc_2 => ?_)
    · refine zk_ret ?_
      try dsimp only
      all_goals exact (by omega)
    · refine zk_ret ?_
      try dsimp only
      all_goals exact (by omega)
theorem s_HM_fault (i_fault : Int) (i_thrown : Int)  : zok (f_HM_fault i_fault i_thrown) (fun o => True) := by
  unfold f_HM_fault
  exact zk_ret trivial
theorem s_HM_force (x1 : Int) (i_thrown : Int) (i_status : Int) (i_refusals : Nat → Int) (i_row : Nat → Int) (b_x1 : (-2147483648) ≤ x1 ∧ x1 ≤ 2147483647) (h_i_row : RI i_row) : zok (f_HM_force x1 i_thrown i_status i_refusals i_row) (fun o => RI o.2.2.2.2) := by
  unfold f_HM_force
  have q3 := RI_3 h_i_row
  refine zk_ifc (zci_eq (by omega) (by omega)) (fun hc => ?_) (fun hc => ?_)
  · unfold f_HM_force_28
    refine zk_d3 (s_HM_change _ _ _ _ (by omega)) (fun v1 v2 a3 hp => ?_)
    try dsimp only at hp
    obtain ⟨hpp0, hpp1, hpp2⟩ := hp
    have i_a3 : RI a3 := by rw [hpp2]; exact RIz_4 h_i_row (by omega)
    refine zk_ret ?_
    try dsimp only
    all_goals exact i_a3
  · refine zk_nE (fun v1_2 h_v1_2 => ?_)
    rw [zwi (by omega)] at h_v1_2
    replace h_v1_2 := h_v1_2.symm
    subst h_v1_2
    refine zk_gl 3 rfl (by decide) (by decide) (fun v2_2 h_v2_2 => ?_)
    have r_v2_2 := RI_3 h_i_row
    refine zk_nE (fun v3 h_v3 => ?_)
    rw [zwi (by omega)] at h_v3
    replace h_v3 := h_v3.symm
    subst h_v3
    refine zk_n ?_
    refine zk_d1 (s_HM_in _ _ _ (by omega) (by omega) (by omega)) (fun v5 hp_2 => ?_)
    try dsimp only at hp_2
    have hp_2p0 := hp_2
    refine zk_ifc (zci_eqr (by omega)) (fun hc_2 => ?_) (fun hc_2 => ?_)
    · refine zk_d3 (s_HM_tell _ _ _ (by omega)) (fun v6 v7 a8 hp_3 => ?_)
      try dsimp only at hp_3
      obtain ⟨hp_3p0, hp_3p1⟩ := hp_3
      refine zk_ret ?_
      try dsimp only
      all_goals exact h_i_row
    · unfold f_HM_force_28
      refine zk_d3 (s_HM_change _ _ _ _ (by omega)) (fun v1_3 v2_3 a3_2 hp_4 => ?_)
      try dsimp only at hp_4
      obtain ⟨hp_4p0, hp_4p1, hp_4p2⟩ := hp_4
      have i_a3_2 : RI a3_2 := by rw [hp_4p2]; exact RIz_4 h_i_row (by omega)
      refine zk_ret ?_
      try dsimp only
      all_goals exact i_a3_2
theorem s_HM_top (x1 : Int) (i_high : Nat → Int) (i_heaps : Nat → Int) (b_x1 : 0 ≤ x1 ∧ x1 ≤ 11) (h_i_high : zR i_high 0 10) (h_i_heaps : zR i_heaps 0 30) : zok (f_HM_top x1 i_high i_heaps) (fun o => (0 ≤ o ∧ o ≤ 30)) := by
  unfold f_HM_top
  refine zk_gv (by omega) (by decide) (fun v1 h_v1 => ?_)
  have r_v1 := h_i_high (x1.toNat)
  refine zk_ifc (zci_ner (by omega)) (fun hc => ?_) (fun hc => ?_)
  · refine zk_n ?_
    refine zk_gv (by omega) (by decide) (fun v3 h_v3 => ?_)
    have r_v3 := h_i_high (x1.toNat)
    refine zk_n ?_
    refine zk_n ?_
    refine zk_gv (by omega) (by decide) (fun v6 h_v6 => ?_)
    have r_v6 := h_i_heaps ((((10 * x1) + v3) - 1).toNat)
    exact zk_ret (by omega)
  · exact zk_ret (by omega)
theorem s_HM_isSteep (x1 : Int) (x2 : Int) (i_row : Nat → Int) (i_high : Nat → Int) (b_x1 : 0 ≤ x1 ∧ x1 ≤ 11) (b_x2 : (-1) ≤ x2 ∧ x2 ≤ 12) (h_i_row : RI i_row) (h_i_high : zR i_high 0 10) : zok (f_HM_isSteep x1 x2 i_row i_high) (fun o => ((o = 1 ∧ 0 ≤ x2 ∧ x2 < i_row 0 ∧ i_high x2.toNat + i_row 7 < i_high x1.toNat) ∨ (o = 0 ∧ (x2 < 0 ∨ i_row 0 ≤ x2 ∨ i_high x1.toNat ≤ i_high x2.toNat + i_row 7))) ∧ (1 ≤ i_row 7) ∧ (0 ≤ i_row 0 ∧ i_row 0 ≤ 12)) := by
  unfold f_HM_isSteep
  have q7 := RI_7 h_i_row
  have q0 := RI_0 h_i_row
  refine zk_d1 (s_HM_isColumn _ _ (by omega) h_i_row) (fun v1 hp => ?_)
  try dsimp only at hp
  obtain ⟨hpp0, hpp1⟩ := hp
  refine zk_ifc (zci_eqr (by omega)) (fun hc => ?_) (fun hc => ?_)
  · exact zk_ret ⟨by omega, by omega, by omega⟩
  · refine zk_gv (by omega) (by decide) (fun v2 h_v2 => ?_)
    have r_v2 := h_i_high (x1.toNat)
    refine zk_gv (by omega) (by decide) (fun v3 h_v3 => ?_)
    have r_v3 := h_i_high (x2.toNat)
    refine zk_gl 7 rfl (by decide) (by decide) (fun v4 h_v4 => ?_)
    have r_v4 := RI_7 h_i_row
    refine zk_n ?_
    refine zk_ifc (zci_le (by omega) (by omega)) (fun hc_2 => ?_) (fun hc_2 => ?_)
    · exact zk_ret ⟨by omega, by omega, by omega⟩
    · exact zk_ret ⟨by omega, by omega, by omega⟩
theorem s_HM_steepest_2 (i_row : Nat → Int) (i_high : Nat → Int) (h_i_row : RI i_row) (h_i_high : zR i_high 0 10) : ∀ (n : Nat) (x1 : Int), (0 ≤ x1 ∧ x1 ≤ 12) → (13 - x1) < (n : Int) → zok (f_HM_steepest_2 i_row i_high n x1) (fun o => ((-1) ≤ o ∧ o ≤ 11) ∧ (o = -1 ∨ (0 ≤ o ∧ o < i_row 0 ∧ ((1 ≤ o ∧ i_high (o - 1).toNat + i_row 7 < i_high (o).toNat) ∨ (o + 1 < i_row 0 ∧ i_high (o + 1).toNat + i_row 7 < i_high (o).toNat))))) := by
  intro n
  induction n with
  | zero => intro x1 b_x1 hm; exfalso; omega
  | succ n ih =>
    intro x1 b_x1 hm
    show zok (f_HM_steepest_2_b i_row i_high (f_HM_steepest_2 i_row i_high n) x1) _
    unfold f_HM_steepest_2_b
    refine zk_d1 (s_HM_columns _ h_i_row) (fun v1 hp => ?_)
    try dsimp only at hp
    obtain ⟨hpp0, hpp1⟩ := hp
    refine zk_ifc (zci_le (by omega) (by omega)) (fun hc => ?_) (fun hc => ?_)
    · exact zk_ret ⟨by omega, by omega⟩
    · refine zk_n ?_
      refine zk_d1 (s_HM_isSteep _ _ _ _ (by omega) (by omega) h_i_row h_i_high) (fun v3 hp_2 => ?_)
      try dsimp only at hp_2
      obtain ⟨hp_2p0, hp_2p1, hp_2p2⟩ := hp_2
      refine zk_ifc (zci_ner (by omega)) (fun hc_2 => ?_) (fun hc_2 => ?_)
      · exact zk_ret ⟨by omega, by omega⟩
      · refine zk_n ?_
        refine zk_d1 (s_HM_isSteep _ _ _ _ (by omega) (by omega) h_i_row h_i_high) (fun v5 hp_3 => ?_)
        try dsimp only at hp_3
        obtain ⟨hp_3p0, hp_3p1, hp_3p2⟩ := hp_3
        refine zk_ifc (zci_eqr (by omega)) (fun hc_3 => ?_) (fun hc_3 => ?_)
        · refine zk_n ?_
          refine zok_mono (ih _ (by omega) (by omega)) (fun o ho => ?_)
          try dsimp only at ho
          obtain ⟨ho_0, ho_1⟩ := ho
          exact ⟨by omega, by omega⟩
        · exact zk_ret ⟨by omega, by omega⟩
theorem s_HM_steepest (i_row : Nat → Int) (i_high : Nat → Int) (h_i_row : RI i_row) (h_i_high : zR i_high 0 10) : zok (f_HM_steepest i_row i_high) (fun o => ((-1) ≤ o ∧ o ≤ 11) ∧ (o = -1 ∨ (0 ≤ o ∧ o < i_row 0 ∧ ((1 ≤ o ∧ i_high (o - 1).toNat + i_row 7 < i_high (o).toNat) ∨ (o + 1 < i_row 0 ∧ i_high (o + 1).toNat + i_row 7 < i_high (o).toNat))))) := by
  unfold f_HM_steepest
  refine zok_mono (s_HM_steepest_2 _ _ h_i_row h_i_high zfu _ (by omega) (by unfold zfu; omega)) (fun o ho => ?_)
  try dsimp only at ho
  obtain ⟨ho_0, ho_1⟩ := ho
  exact ⟨by omega, by omega⟩
theorem s_HM_size (x0 : Int) (b_x0 : (-2147483647) ≤ x0 ∧ x0 ≤ 2147483647) : zok (f_HM_size x0) (fun o => ((o = x0 ∧ 0 ≤ x0) ∨ (o = -x0 ∧ x0 < 0))) := by
  unfold f_HM_size
  refine zk_ifc (zci_lel (by omega)) (fun hc => ?_) (fun hc => ?_)
  · exact zk_ret (by omega)
  · refine zk_nE (fun v1 h_v1 => ?_)
    exact zk_ret (by omega)
theorem s_HM_shadeAt_4 (i_row : Nat → Int) (i_high : Nat → Int) (h_i_row : RI i_row) (h_i_high : zR i_high 0 10) : ∀ (n : Nat) (x1 : Int) (x2 : Int) (x3 : Int), (0 ≤ x1 ∧ x1 ≤ 11) → (0 ≤ x2 ∧ x2 ≤ 10) → (0 ≤ x3 ∧ x3 ≤ 12) → (13 - x3) < (n : Int) → zok (f_HM_shadeAt_4 i_row i_high n x1 x2 x3) (fun o => (0 ≤ o ∧ o ≤ 10)) := by
  intro n
  induction n with
  | zero => intro x1 x2 x3 b_x1 b_x2 b_x3 hm; exfalso; omega
  | succ n ih =>
    intro x1 x2 x3 b_x1 b_x2 b_x3 hm
    show zok (f_HM_shadeAt_4_b i_row i_high (f_HM_shadeAt_4 i_row i_high n) x1 x2 x3) _
    unfold f_HM_shadeAt_4_b
    refine zk_d1 (s_HM_columns _ h_i_row) (fun v1 hp => ?_)
    try dsimp only at hp
    obtain ⟨hpp0, hpp1⟩ := hp
    refine zk_ifc (zci_le (by omega) (by omega)) (fun hc => ?_) (fun hc => ?_)
    · exact zk_ret (by omega)
    · refine zk_gv (by omega) (by decide) (fun v2 h_v2 => ?_)
      have r_v2 := h_i_high (x3.toNat)
      refine zk_gl 6 rfl (by decide) (by decide) (fun v3 h_v3 => ?_)
      have r_v3 := RI_6 h_i_row
      refine zk_n ?_
      refine zk_d1 (s_HM_size _ (by omega)) (fun v5 hp_2 => ?_)
      try dsimp only at hp_2
      have hp_2p0 := hp_2
      refine zk_nE (fun v6 h_v6 => ?_)
      have r_v6 := zmulb (a := v3) (b := v5) 9 11 (by omega) (by omega)
      refine zk_n ?_
      refine zk_ifc (zci_le (by omega) (by omega)) (fun hc_2 => ?_) (fun hc_2 => ?_)
      · unfold f_HM_shadeAt_47
        refine zk_n ?_
        exact ih _ _ _ (by omega) (by omega) (by omega) (by omega)
      · unfold f_HM_shadeAt_47
        refine zk_n ?_
        exact ih _ _ _ (by omega) (by omega) (by omega) (by omega)
theorem s_HM_shadeAt (x1 : Int) (i_row : Nat → Int) (i_high : Nat → Int) (b_x1 : 0 ≤ x1 ∧ x1 ≤ 11) (h_i_row : RI i_row) (h_i_high : zR i_high 0 10) : zok (f_HM_shadeAt x1 i_row i_high) (fun o => (0 ≤ o ∧ o ≤ 10)) := by
  unfold f_HM_shadeAt
  exact s_HM_shadeAt_4 _ _ h_i_row h_i_high zfu _ _ _ (by omega) (by omega) (by omega) (by unfold zfu; omega)
theorem s_HM_allShades_4 (i_row : Nat → Int) (i_high : Nat → Int) (h_i_row : RI i_row) (h_i_high : zR i_high 0 10) : ∀ (n : Nat) (x1 : Int) (x2 : Int), (0 ≤ x1 ∧ x1 ≤ 60) → (0 ≤ x2 ∧ x2 ≤ 6) → (x1 ≤ 10 * x2) → (7 - x2) < (n : Int) → zok (f_HM_allShades_4 i_row i_high n x1 x2) (fun o => (0 ≤ o ∧ o ≤ 60)) := by
  intro n
  induction n with
  | zero => intro x1 x2 b_x1 b_x2 p_0 hm; exfalso; omega
  | succ n ih =>
    intro x1 x2 b_x1 b_x2 p_0 hm
    show zok (f_HM_allShades_4_b i_row i_high (f_HM_allShades_4 i_row i_high n) x1 x2) _
    unfold f_HM_allShades_4_b
    refine zk_gl 2 rfl (by decide) (by decide) (fun v1 h_v1 => ?_)
    have r_v1 := RI_2 h_i_row
    refine zk_ifc (zci_le (by omega) (by omega)) (fun hc => ?_) (fun hc => ?_)
    · exact zk_ret (by omega)
    · refine zk_n ?_
      refine zk_gv (by omega) (by decide) (fun v3 h_v3 => ?_)
      have r_v3 := RI_p h_i_row (i := (171 + x2)) (by omega)
      refine zk_d1 (s_HM_shadeAt _ _ _ (by omega) h_i_row h_i_high) (fun v4 hp => ?_)
      try dsimp only at hp
      have hpp0 := hp
      refine zk_n ?_
      refine zk_n ?_
      exact ih _ _ (by omega) (by omega) (by omega) (by omega)
theorem s_HM_allShades (i_row : Nat → Int) (i_high : Nat → Int) (h_i_row : RI i_row) (h_i_high : zR i_high 0 10) : zok (f_HM_allShades i_row i_high) (fun o => (0 ≤ o ∧ o ≤ 60)) := by
  unfold f_HM_allShades
  exact s_HM_allShades_4 _ _ h_i_row h_i_high zfu _ _ (by omega) (by omega) (by omega) (by unfold zfu; omega)
theorem s_HM_goal (x1 : Int) (x2 : Int) (i_thrown : Int) (i_status : Int) (i_refusals : Nat → Int) (i_row : Nat → Int) (b_x1 : (-2147483648) ≤ x1 ∧ x1 ≤ 2147483647) (b_x2 : (-2147483648) ≤ x2 ∧ x2 ≤ 2147483647) (h_i_row : RI i_row) : zok (f_HM_goal x1 x2 i_thrown i_status i_refusals i_row) (fun o => RI o.2.2.2.2) := by
  unfold f_HM_goal
  refine zk_nE (fun v1 h_v1 => ?_)
  rw [zwi (by omega)] at h_v1
  replace h_v1 := h_v1.symm
  subst h_v1
  refine zk_d1 (s_HM_in _ _ _ (by omega) (by omega) (by omega)) (fun v2 hp => ?_)
  try dsimp only at hp
  have hpp0 := hp
  refine zk_ifc (zci_ner (by omega)) (fun hc => ?_) (fun hc => ?_)
  · refine zk_d1 (s_HM_isColumn _ _ (by omega) h_i_row) (fun v3 hp_2 => ?_)
    try dsimp only at hp_2
    obtain ⟨hp_2p0, hp_2p1⟩ := hp_2
    refine zk_ifc (zci_ner (by omega)) (fun hc_2 => ?_) (fun hc_2 => ?_)
    · refine zk_n ?_
      refine zk_d3 (s_HM_change _ _ _ _ (by omega)) (fun v5 v6 a7 hp_3 => ?_)
      try dsimp only at hp_3
      obtain ⟨hp_3p0, hp_3p1, hp_3p2⟩ := hp_3
      have i_a7 : RI a7 := by rw [hp_3p2]; exact RIz_g h_i_row (by omega) (by omega)
      refine zk_ret ?_
      try dsimp only
      all_goals exact i_a7
    · refine zk_d3 (s_HM_tell _ _ _ (by omega)) (fun v8 v9 a10 hp_4 => ?_)
      try dsimp only at hp_4
      obtain ⟨hp_4p0, hp_4p1⟩ := hp_4
      refine zk_ifc (zci_lel (by omega)) (fun hc_3 => ?_) (fun hc_3 => ?_)
      · refine zk_ret ?_
        try dsimp only
        all_goals exact h_i_row
      · refine zk_ret ?_
        try dsimp only
        all_goals exact h_i_row
  · refine zk_d3 (s_HM_tell _ _ _ (by omega)) (fun v11 v12 a13 hp_5 => ?_)
    try dsimp only at hp_5
    obtain ⟨hp_5p0, hp_5p1⟩ := hp_5
    refine zk_ifc (zci_lel (by omega)) (fun hc_4 => ?_) (fun hc_4 => ?_)
    · refine zk_ret ?_
      try dsimp only
      all_goals exact h_i_row
    · refine zk_ret ?_
      try dsimp only
      all_goals exact h_i_row
theorem s_HM_stones_4 (i_row : Nat → Int) (h_i_row : RI i_row) : ∀ (n : Nat) (x1 : Int) (x2 : Int), (0 ≤ x1 ∧ x1 ≤ 120) → (0 ≤ x2 ∧ x2 ≤ 12) → (x1 ≤ 10 * x2) → (13 - x2) < (n : Int) → zok (f_HM_stones_4 i_row n x1 x2) (fun o => (0 ≤ o ∧ o ≤ 120)) := by
  intro n
  induction n with
  | zero => intro x1 x2 b_x1 b_x2 p_0 hm; exfalso; omega
  | succ n ih =>
    intro x1 x2 b_x1 b_x2 p_0 hm
    show zok (f_HM_stones_4_b i_row (f_HM_stones_4 i_row n) x1 x2) _
    unfold f_HM_stones_4_b
    refine zk_d1 (s_HM_columns _ h_i_row) (fun v1 hp => ?_)
    try dsimp only at hp
    obtain ⟨hpp0, hpp1⟩ := hp
    refine zk_ifc (zci_le (by omega) (by omega)) (fun hc => ?_) (fun hc => ?_)
    · exact zk_ret (by omega)
    · refine zk_n ?_
      refine zk_gv (by omega) (by decide) (fun v3 h_v3 => ?_)
      have r_v3 := RI_h h_i_row (i := (9 + x2)) (by omega)
      refine zk_n ?_
      refine zk_n ?_
      exact ih _ _ (by omega) (by omega) (by omega) (by omega)
theorem s_HM_stones (i_row : Nat → Int) (h_i_row : RI i_row) : zok (f_HM_stones i_row) (fun o => (0 ≤ o ∧ o ≤ 120)) := by
  unfold f_HM_stones
  exact s_HM_stones_4 _ h_i_row zfu _ _ (by omega) (by omega) (by omega) (by unfold zfu; omega)
theorem s_HM_weighs_91 (i_row : Nat → Int) (k49 : Int → Int → Int → (Nat → Int) → Option (Int × Int × (Nat → Int))) (Nk49 : Nat) (hk49 : ∀ (x1 : Int) (x2 : Int) (i_thrown : Int) (i_sets : Nat → Int), (0 ≤ x1 ∧ x1 ≤ 3600) → (0 ≤ x2 ∧ x2 ≤ 12) → (zR i_sets 0 1000000000) → (13 - x2) < (Nk49 : Int) → zok (k49 x1 x2 i_thrown i_sets) (fun o => zR o.2.2 0 1000000000)) (k59 : Int → Int → Int → Int → (Nat → Int) → Option (Int × Int × (Nat → Int))) (Nk59 : Nat) (hk59 : ∀ (x1 : Int) (x2 : Int) (x3 : Int) (i_thrown : Int) (i_sets : Nat → Int), (0 ≤ x1 ∧ x1 ≤ 3600) → (0 ≤ x2 ∧ x2 ≤ 11) → (0 ≤ x3 ∧ x3 ≤ 10) → (zR i_sets 0 1000000000) → (13 - x2) < (Nk49 : Int) + 1 → (11 - x3) < (Nk59 : Int) → zok (k59 x1 x2 x3 i_thrown i_sets) (fun o => zR o.2.2 0 1000000000)) (h_i_row : RI i_row) : ∀ (n : Nat) (x1 : Int) (x2 : Int) (x3 : Int) (x4 : Int) (x5 : Int) (i_thrown : Int) (i_sets : Nat → Int), (0 ≤ x1 ∧ x1 ≤ 3600) → (0 ≤ x2 ∧ x2 ≤ 11) → (0 ≤ x3 ∧ x3 ≤ 9) → (0 ≤ x4 ∧ x4 ≤ 30) → ((-31) ≤ x5 ∧ x5 ≤ 3600) → (zR i_sets 0 1000000000) → (x5 ≤ x1) → (13 - x2) < (Nk49 : Int) + 1 → (11 - x3) < (Nk59 : Int) + 1 → (x5 + 32) < (n : Int) → zok (f_HM_weighs_91 i_row k49 k59 n x1 x2 x3 x4 x5 i_thrown i_sets) (fun o => zR o.2.2 0 1000000000) := by
  intro n
  induction n with
  | zero => intro x1 x2 x3 x4 x5 i_thrown i_sets b_x1 b_x2 b_x3 b_x4 b_x5 h_i_sets p_0 mk49 mk59 hm; exfalso; omega
  | succ n ih =>
    intro x1 x2 x3 x4 x5 i_thrown i_sets b_x1 b_x2 b_x3 b_x4 b_x5 h_i_sets p_0 mk49 mk59 hm
    show zok (f_HM_weighs_91_b i_row k49 k59 (f_HM_weighs_91 i_row k49 k59 n) x1 x2 x3 x4 x5 i_thrown i_sets) _
    unfold f_HM_weighs_91_b
    refine zk_ifc (zci_lt (by omega) (by omega)) (fun hc => ?_) (fun hc => ?_)
    · refine zk_n ?_
      exact hk59 _ _ _ _ _ (by omega) (by omega) (by omega) h_i_sets (by omega) (by omega)
    · refine zk_gv (by omega) (by decide) (fun v2 h_v2 => ?_)
      have r_v2 := h_i_sets (x5.toNat)
      refine zk_n ?_
      refine zk_gv (by omega) (by decide) (fun v4 h_v4 => ?_)
      have r_v4 := h_i_sets ((x5 - x4).toNat)
      refine zk_n ?_
      refine zk_ifc (zcl_le (by omega) (by omega)) (fun hc_2 => ?_) (fun hc_2 => ?_)
      · unfold f_HM_weighs_141
        refine zk_sv (by omega) (by decide) (fun a1 h_a1 => ?_)
        have i_a1 : zR a1 0 1000000000 := by rw [h_a1]; exact zR_zu h_i_sets (by decide) (by decide) (by omega)
        refine zk_n ?_
        exact ih _ _ _ _ _ _ _ (by omega) (by omega) (by omega) (by omega) (by omega) i_a1 (by omega) (by omega) (by omega) (by omega)
      · unfold f_HM_weighs_141
        refine zk_sv (by omega) (by decide) (fun a1_2 h_a1_2 => ?_)
        have i_a1_2 : zR a1_2 0 1000000000 := by rw [h_a1_2]; exact zR_zu h_i_sets (by decide) (by decide) (by omega)
        refine zk_n ?_
        exact ih _ _ _ _ _ _ _ (by omega) (by omega) (by omega) (by omega) (by omega) i_a1_2 (by omega) (by omega) (by omega) (by omega)
theorem s_HM_weighs_59 (i_row : Nat → Int) (k49 : Int → Int → Int → (Nat → Int) → Option (Int × Int × (Nat → Int))) (Nk49 : Nat) (hk49 : ∀ (x1 : Int) (x2 : Int) (i_thrown : Int) (i_sets : Nat → Int), (0 ≤ x1 ∧ x1 ≤ 3600) → (0 ≤ x2 ∧ x2 ≤ 12) → (zR i_sets 0 1000000000) → (13 - x2) < (Nk49 : Int) → zok (k49 x1 x2 i_thrown i_sets) (fun o => zR o.2.2 0 1000000000)) (h_i_row : RI i_row) : ∀ (n : Nat) (x1 : Int) (x2 : Int) (x3 : Int) (i_thrown : Int) (i_sets : Nat → Int), (0 ≤ x1 ∧ x1 ≤ 3600) → (0 ≤ x2 ∧ x2 ≤ 11) → (0 ≤ x3 ∧ x3 ≤ 10) → (zR i_sets 0 1000000000) → (13 - x2) < (Nk49 : Int) + 1 → (11 - x3) < (n : Int) → zok (f_HM_weighs_59 i_row k49 n x1 x2 x3 i_thrown i_sets) (fun o => zR o.2.2 0 1000000000) := by
  intro n
  induction n with
  | zero => intro x1 x2 x3 i_thrown i_sets b_x1 b_x2 b_x3 h_i_sets mk49 hm; exfalso; omega
  | succ n ih =>
    intro x1 x2 x3 i_thrown i_sets b_x1 b_x2 b_x3 h_i_sets mk49 hm
    show zok (f_HM_weighs_59_b i_row k49 (f_HM_weighs_59 i_row k49 n) x1 x2 x3 i_thrown i_sets) _
    unfold f_HM_weighs_59_b
    refine zk_n ?_
    refine zk_gv (by omega) (by decide) (fun v2 h_v2 => ?_)
    have r_v2 := RI_h h_i_row (i := (9 + x2)) (by omega)
    refine zk_ifc (zci_le (by omega) (by omega)) (fun hc => ?_) (fun hc => ?_)
    · refine zk_n ?_
      exact hk49 _ _ _ _ (by omega) (by omega) h_i_sets (by omega)
    · refine zk_n ?_
      refine zk_n ?_
      refine zk_n ?_
      refine zk_gv (by omega) (by decide) (fun v7 h_v7 => ?_)
      have r_v7 := RI_s h_i_row (i := ((21 + (10 * x2)) + x3)) (by omega)
      exact s_HM_weighs_91 _ _ Nk49 hk49 _ n ih h_i_row zfu _ _ _ _ _ _ _ (by omega) (by omega) (by omega) (by omega) (by omega) h_i_sets (by omega) (by omega) (by omega) (by unfold zfu; omega)
theorem s_HM_weighs_49 (i_row : Nat → Int) (h_i_row : RI i_row) : ∀ (n : Nat) (x1 : Int) (x2 : Int) (i_thrown : Int) (i_sets : Nat → Int), (0 ≤ x1 ∧ x1 ≤ 3600) → (0 ≤ x2 ∧ x2 ≤ 12) → (zR i_sets 0 1000000000) → (13 - x2) < (n : Int) → zok (f_HM_weighs_49 i_row n x1 x2 i_thrown i_sets) (fun o => zR o.2.2 0 1000000000) := by
  intro n
  induction n with
  | zero => intro x1 x2 i_thrown i_sets b_x1 b_x2 h_i_sets hm; exfalso; omega
  | succ n ih =>
    intro x1 x2 i_thrown i_sets b_x1 b_x2 h_i_sets hm
    show zok (f_HM_weighs_49_b i_row (f_HM_weighs_49 i_row n) x1 x2 i_thrown i_sets) _
    unfold f_HM_weighs_49_b
    refine zk_d1 (s_HM_columns _ h_i_row) (fun v1 hp => ?_)
    try dsimp only at hp
    obtain ⟨hpp0, hpp1⟩ := hp
    refine zk_ifc (zci_le (by omega) (by omega)) (fun hc => ?_) (fun hc => ?_)
    · refine zk_gv (by omega) (by decide) (fun v2 h_v2 => ?_)
      have r_v2 := h_i_sets (x1.toNat)
      refine zk_ret ?_
      try dsimp only
      all_goals exact h_i_sets
    · exact s_HM_weighs_59 _ _ n ih h_i_row zfu _ _ _ _ _ (by omega) (by omega) (by omega) h_i_sets (by omega) (by unfold zfu; omega)
theorem s_HM_weighs_21 (i_row : Nat → Int) (h_i_row : RI i_row) : ∀ (n : Nat) (x1 : Int) (x2 : Int) (i_thrown : Int) (i_sets : Nat → Int), (0 ≤ x1 ∧ x1 ≤ 3600) → (0 ≤ x2 ∧ x2 ≤ 3601) → (zR i_sets 0 1000000000) → (3602 - x2) < (n : Int) → zok (f_HM_weighs_21 i_row n x1 x2 i_thrown i_sets) (fun o => zR o.2.2 0 1000000000) := by
  intro n
  induction n with
  | zero => intro x1 x2 i_thrown i_sets b_x1 b_x2 h_i_sets hm; exfalso; omega
  | succ n ih =>
    intro x1 x2 i_thrown i_sets b_x1 b_x2 h_i_sets hm
    show zok (f_HM_weighs_21_b i_row (f_HM_weighs_21 i_row n) x1 x2 i_thrown i_sets) _
    unfold f_HM_weighs_21_b
    refine zk_ifc (zci_lt (by omega) (by omega)) (fun hc => ?_) (fun hc => ?_)
    · exact s_HM_weighs_49 _ h_i_row zfu _ _ _ _ (by omega) (by omega) h_i_sets (by unfold zfu; omega)
    · refine zk_ifc (zci_ner (by omega)) (fun hc_2 => ?_) (fun hc_2 => ?_)
      · unfold f_HM_weighs_40
        refine zk_sv (by omega) (by decide) (fun a1 h_a1 => ?_)
        have i_a1 : zR a1 0 1000000000 := by rw [h_a1]; exact zR_zu h_i_sets (by decide) (by decide) (by omega)
        refine zk_n ?_
        exact ih _ _ _ _ (by omega) (by omega) i_a1 (by omega)
      · unfold f_HM_weighs_40
        refine zk_sv (by omega) (by decide) (fun a1_2 h_a1_2 => ?_)
        have i_a1_2 : zR a1_2 0 1000000000 := by rw [h_a1_2]; exact zR_zu h_i_sets (by decide) (by decide) (by omega)
        refine zk_n ?_
        exact ih _ _ _ _ (by omega) (by omega) i_a1_2 (by omega)
theorem s_HM_weighs (x1 : Int) (i_row : Nat → Int) (i_thrown : Int) (i_sets : Nat → Int) (b_x1 : (-2147483648) ≤ x1 ∧ x1 ≤ 2147483647) (h_i_row : RI i_row) (h_i_sets : zR i_sets 0 1000000000) : zok (f_HM_weighs x1 i_row i_thrown i_sets) (fun o => zR o.2.2 0 1000000000) := by
  unfold f_HM_weighs
  refine zk_nE (fun v1 h_v1 => ?_)
  rw [zwi (by omega)] at h_v1
  replace h_v1 := h_v1.symm
  subst h_v1
  refine zk_d1 (s_HM_in _ _ _ (by omega) (by omega) (by omega)) (fun v2 hp => ?_)
  try dsimp only at hp
  have hpp0 := hp
  refine zk_ifc (zci_ner (by omega)) (fun hc => ?_) (fun hc => ?_)
  · exact s_HM_weighs_21 _ h_i_row zfu _ _ _ _ (by omega) (by omega) h_i_sets (by unfold zfu; omega)
  · refine zk_ret ?_
    try dsimp only
    all_goals exact h_i_sets
theorem s_HM_trips (x1 : Int) (x2 : Int) (i_thrown : Int) (i_status : Int) (i_refusals : Nat → Int) (i_row : Nat → Int) (b_x1 : (-2147483648) ≤ x1 ∧ x1 ≤ 2147483647) (b_x2 : (-2147483648) ≤ x2 ∧ x2 ≤ 2147483647) (h_i_row : RI i_row) : zok (f_HM_trips x1 x2 i_thrown i_status i_refusals i_row) (fun o => RI o.2.2.2.2) := by
  unfold f_HM_trips
  refine zk_nE (fun v1 h_v1 => ?_)
  rw [zwi (by omega)] at h_v1
  replace h_v1 := h_v1.symm
  subst h_v1
  refine zk_d1 (s_HM_in _ _ _ (by omega) (by omega) (by omega)) (fun v2 hp => ?_)
  try dsimp only at hp
  have hpp0 := hp
  refine zk_ifc (zci_ner (by omega)) (fun hc => ?_) (fun hc => ?_)
  · refine zk_d1 (s_HM_isChild _ _ (by omega) h_i_row) (fun v3 hp_2 => ?_)
    try dsimp only at hp_2
    obtain ⟨hp_2p0, hp_2p1⟩ := hp_2
    refine zk_ifc (zci_eqr (by omega)) (fun hc_2 => ?_) (fun hc_2 => ?_)
    · refine zk_d3 (s_HM_tell _ _ _ (by omega)) (fun v4 v5 a6 hp_3 => ?_)
      try dsimp only at hp_3
      obtain ⟨hp_3p0, hp_3p1⟩ := hp_3
      refine zk_ret ?_
      try dsimp only
      all_goals exact h_i_row
    · refine zk_n ?_
      refine zk_n ?_
      refine zk_n ?_
      refine zk_d3 (s_HM_change _ _ _ _ (by omega)) (fun v10 v11 a12 hp_4 => ?_)
      try dsimp only at hp_4
      obtain ⟨hp_4p0, hp_4p1, hp_4p2⟩ := hp_4
      have i_a12 : RI a12 := by rw [hp_4p2]; exact RIz_c h_i_row (by omega) (by omega)
      refine zk_ret ?_
      try dsimp only
      all_goals exact i_a12
  · refine zk_d3 (s_HM_tell _ _ _ (by omega)) (fun v13 v14 a15 hp_5 => ?_)
    try dsimp only at hp_5
    obtain ⟨hp_5p0, hp_5p1⟩ := hp_5
    refine zk_ret ?_
    try dsimp only
    all_goals exact h_i_row
theorem s_HM_is (x0 : Int) (x1 : Int) (b_x0 : (-2147483648) ≤ x0 ∧ x0 ≤ 2147483647) (b_x1 : (-2147483648) ≤ x1 ∧ x1 ≤ 2147483647) : zok (f_HM_is x0 x1) (fun o => (o = 0 ∨ o = 1)) := by
  unfold f_HM_is
  refine zk_nE (fun v1 h_v1 => ?_)
  have r_v1 := zi_shr_f x0 x1; rw [← h_v1] at r_v1
  refine zk_nE (fun v2 h_v2 => ?_)
  have r_v2 := zi_and_m v1 (m := 1) (by decide); rw [← h_v2] at r_v2
  refine zk_ifc (zci_ne (by omega) (by omega)) (fun hc => ?_) (fun hc => ?_)
  · exact zk_ret (by omega)
  · exact zk_ret (by omega)
theorem s_HM_layers_35 (i_row : Nat → Int) (h_i_row : RI i_row) : ∀ (n : Nat) (x1 : Int) (x2 : Int) (x3 : Int) (i_thrown : Int), (0 ≤ x1 ∧ x1 ≤ 11) → (1 ≤ x3 ∧ x3 ≤ 10) → (11 - x3) < (n : Int) → zok (f_HM_layers_35 i_row n x1 x2 x3 i_thrown) (fun o => True) := by
  intro n
  induction n with
  | zero => intro x1 x2 x3 i_thrown b_x1 b_x3 hm; exfalso; omega
  | succ n ih =>
    intro x1 x2 x3 i_thrown b_x1 b_x3 hm
    show zok (f_HM_layers_35_b i_row (f_HM_layers_35 i_row n) x1 x2 x3 i_thrown) _
    unfold f_HM_layers_35_b
    refine zk_n ?_
    refine zk_gv (by omega) (by decide) (fun v2 h_v2 => ?_)
    have r_v2 := RI_h h_i_row (i := (9 + x1)) (by omega)
    refine zk_ifc (zci_le (by omega) (by omega)) (fun hc => ?_) (fun hc => ?_)
    · exact zk_ret trivial
    · refine zk_n ?_
      refine zk_n ?_
      refine zk_n ?_
      refine zk_gv (by omega) (by decide) (fun v6 h_v6 => ?_)
      have r_v6 := RI_s h_i_row (i := ((21 + (10 * x1)) + x3)) (by omega)
      refine zk_n ?_
      refine zk_n ?_
      refine zk_n ?_
      refine zk_n ?_
      refine zk_gv (by omega) (by decide) (fun v11 h_v11 => ?_)
      have r_v11 := RI_s h_i_row (i := (((21 + (10 * x1)) + x3) - 1)) (by omega)
      refine zk_ifc (zci_le (by omega) (by omega)) (fun hc_2 => ?_) (fun hc_2 => ?_)
      · unfold f_HM_layers_87
        refine zk_n ?_
        refine zk_n ?_
        exact ih _ _ _ _ (by omega) (by omega) (by omega)
      · unfold f_HM_layers_87
        refine zk_n ?_
        refine zk_n ?_
        exact ih _ _ _ _ (by omega) (by omega) (by omega)
theorem s_HM_layers (x1 : Int) (i_row : Nat → Int) (i_thrown : Int) (b_x1 : (-2147483648) ≤ x1 ∧ x1 ≤ 2147483647) (h_i_row : RI i_row) : zok (f_HM_layers x1 i_row i_thrown) (fun o => True) := by
  unfold f_HM_layers
  refine zk_d1 (s_HM_isColumn _ _ (by omega) h_i_row) (fun v1 hp => ?_)
  try dsimp only at hp
  obtain ⟨hpp0, hpp1⟩ := hp
  refine zk_ifc (zci_ner (by omega)) (fun hc => ?_) (fun hc => ?_)
  · refine zk_n ?_
    refine zk_gv (by omega) (by decide) (fun v3 h_v3 => ?_)
    have r_v3 := RI_h h_i_row (i := (9 + x1)) (by omega)
    refine zk_ifc (zci_ler (by omega)) (fun hc_2 => ?_) (fun hc_2 => ?_)
    · unfold f_HM_layers_32
      exact s_HM_layers_35 _ h_i_row zfu _ _ _ _ (by omega) (by omega) (by unfold zfu; omega)
    · unfold f_HM_layers_32
      exact s_HM_layers_35 _ h_i_row zfu _ _ _ _ (by omega) (by omega) (by unfold zfu; omega)
  · exact zk_ret trivial
theorem s_HM_rained (x1 : Int) (x2 : Int) (i_wet : Int) (i_rained : Nat → Int) (i_thrown : Int) (b_x1 : (-2147483648) ≤ x1 ∧ x1 ≤ 2147483647) (b_x2 : (-2147483648) ≤ x2 ∧ x2 ≤ 2147483647) (b_i_wet : 0 ≤ i_wet ∧ i_wet ≤ 12) : zok (f_HM_rained x1 x2 i_wet i_rained i_thrown) (fun o => True) := by
  unfold f_HM_rained
  refine zk_nE (fun v1 h_v1 => ?_)
  rw [zwi (by omega)] at h_v1
  replace h_v1 := h_v1.symm
  subst h_v1
  refine zk_nE (fun v2 h_v2 => ?_)
  rw [zwi (by omega)] at h_v2
  replace h_v2 := h_v2.symm
  subst h_v2
  refine zk_n ?_
  refine zk_d1 (s_HM_in _ _ _ (by omega) (by omega) (by omega)) (fun v4 hp => ?_)
  try dsimp only at hp
  have hpp0 := hp
  refine zk_ifc (zci_eqr (by omega)) (fun hc => ?_) (fun hc => ?_)
  · exact zk_ret trivial
  · refine zk_nE (fun v5 h_v5 => ?_)
    rw [zwi (by omega)] at h_v5
    replace h_v5 := h_v5.symm
    subst h_v5
    refine zk_d1 (s_HM_in _ _ _ (by omega) (by omega) (by omega)) (fun v6 hp_2 => ?_)
    try dsimp only at hp_2
    have hp_2p0 := hp_2
    refine zk_ifc (zci_eqr (by omega)) (fun hc_2 => ?_) (fun hc_2 => ?_)
    · exact zk_ret trivial
    · refine zk_n ?_
      refine zk_n ?_
      refine zk_gv (by omega) (by decide) (fun v9 h_v9 => ?_)
      exact zk_ret trivial
theorem s_HM_count (x1 : Int) (i_taped : Int) (i_refusals : Nat → Int) (i_row : Nat → Int) (i_thrown : Int) (b_x1 : (-2147483648) ≤ x1 ∧ x1 ≤ 2147483647) (h_i_row : RI i_row) : zok (f_HM_count x1 i_taped i_refusals i_row i_thrown) (fun o => True) := by
  unfold f_HM_count
  refine zk_ifc (zci_eqr (by omega)) (fun hc => ?_) (fun hc => ?_)
  · refine zk_d1 (s_HM_columns _ h_i_row) (fun v1 hp => ?_)
    try dsimp only at hp
    obtain ⟨hpp0, hpp1⟩ := hp
    exact zk_ret trivial
  · refine zk_ifc (zci_eqr (by omega)) (fun hc_2 => ?_) (fun hc_2 => ?_)
    · refine zk_d1 (s_HM_stones _ h_i_row) (fun v2 hp_2 => ?_)
      try dsimp only at hp_2
      have hp_2p0 := hp_2
      exact zk_ret trivial
    · refine zk_ifc (zci_eqr (by omega)) (fun hc_3 => ?_) (fun hc_3 => ?_)
      · refine zk_gl 1 rfl (by decide) (by decide) (fun v3 h_v3 => ?_)
        have r_v3 := RI_1 h_i_row
        exact zk_ret trivial
      · refine zk_ifc (zci_eqr (by omega)) (fun hc_4 => ?_) (fun hc_4 => ?_)
        · refine zk_gl 2 rfl (by decide) (by decide) (fun v4 h_v4 => ?_)
          have r_v4 := RI_2 h_i_row
          exact zk_ret trivial
        · refine zk_ifc (zci_eqr (by omega)) (fun hc_5 => ?_) (fun hc_5 => ?_)
          · refine zk_gl 3 rfl (by decide) (by decide) (fun v5 h_v5 => ?_)
            have r_v5 := RI_3 h_i_row
            exact zk_ret trivial
          · refine zk_ifc (zci_eqr (by omega)) (fun hc_6 => ?_) (fun hc_6 => ?_)
            · exact zk_ret trivial
            · refine zk_ifc (zci_eqr (by omega)) (fun hc_7 => ?_) (fun hc_7 => ?_)
              · refine zk_gl 1 rfl (by decide) (by decide) (fun v6 h_v6 => ?_)
                exact zk_ret trivial
              · refine zk_ifc (zci_eqr (by omega)) (fun hc_8 => ?_) (fun hc_8 => ?_)
                · refine zk_gl 2 rfl (by decide) (by decide) (fun v7 h_v7 => ?_)
                  exact zk_ret trivial
                · refine zk_ifc (zci_eqr (by omega)) (fun hc_9 => ?_) (fun hc_9 => ?_)
                  · refine zk_gl 3 rfl (by decide) (by decide) (fun v8 h_v8 => ?_)
                    exact zk_ret trivial
                  · refine zk_ifc (zci_eqr (by omega)) (fun hc_10 => ?_) (fun hc_10 => ?_)
                    · refine zk_gl 5 rfl (by decide) (by decide) (fun v9 h_v9 => ?_)
                      exact zk_ret trivial
                    · refine zk_ifc (zci_eqr (by omega)) (fun hc_11 => ?_) (fun hc_11 => ?_)
                      · refine zk_gl 6 rfl (by decide) (by decide) (fun v10 h_v10 => ?_)
                        exact zk_ret trivial
                      · refine zk_ifc (zci_eqr (by omega)) (fun hc_12 => ?_) (fun hc_12 => ?_)
                        · refine zk_gl 4 rfl (by decide) (by decide) (fun v11 h_v11 => ?_)
                          have r_v11 := RI_4 h_i_row
                          exact zk_ret trivial
                        · refine zk_nE (fun v12 h_v12 => ?_)
                          rw [zwi (by omega)] at h_v12
                          replace h_v12 := h_v12.symm
                          subst h_v12
                          refine zk_d1 (s_HM_in _ _ _ (by omega) (by omega) (by omega)) (fun v13 hp_3 => ?_)
                          try dsimp only at hp_3
                          have hp_3p0 := hp_3
                          refine zk_ifc (zci_eqr (by omega)) (fun hc_13 => ?_) (fun hc_13 => ?_)
                          · exact zk_ret trivial
                          · refine zk_n ?_
                            refine zk_n ?_
                            refine zk_gv (by omega) (by decide) (fun v16 h_v16 => ?_)
                            have r_v16 := RI_t h_i_row (i := ((5 + x1) - 12)) (by omega)
                            exact zk_ret trivial
theorem s_HM_status (i_status : Int) (i_thrown : Int)  : zok (f_HM_status i_status i_thrown) (fun o => True) := by
  unfold f_HM_status
  exact zk_ret trivial
end
section
/-! OUR OWN: the reference's laws are followed to their end -/
theorem s_HM_reckon (x1 x2 x4 i_broken : Int) (b1 : 20 ≤ x1 ∧ x1 ≤ 26) (b2 : -2147483648 ≤ x2 ∧ x2 ≤ 2147483649) (b4 : -2147483648 ≤ x4 ∧ x4 ≤ 2147483649) (hb : i_broken = 0) : zok (f_HM_reckon x1 x2 x4 i_broken) (fun o => (-9223372036854775808 ≤ o.1 ∧ o.1 ≤ 9223372036854775807) ∧ (o.2 = 0 ∨ o.2 = 1)) := by
  have m := zmulA (a := x2) (b := x4) 2147483649 2147483649 (by omega) (by omega)
  have dv := zl_div_f x2 x4
  unfold f_HM_reckon
  refine zk_ifc (zci_eqr (by omega)) (fun hc => ?_) (fun hc => ?_)
  · exact zk_ret ⟨by dsimp only; omega, by dsimp only; omega⟩
  · refine zk_ifc (zci_eqr (by omega)) (fun hc_2 => ?_) (fun hc_2 => ?_)
    · exact zk_ret ⟨by dsimp only; omega, by dsimp only; omega⟩
    · refine zk_ifc (zci_eqr (by omega)) (fun hc_3 => ?_) (fun hc_3 => ?_)
      · refine zk_nE (fun v3 h_v3 => ?_)
        exact zk_ret ⟨by dsimp only; omega, by dsimp only; omega⟩
      · refine zk_ifc (zci_eqr (by omega)) (fun hc_4 => ?_) (fun hc_4 => ?_)
        · refine zk_ifc (zcl_ne (by omega) (by omega)) (fun hc_5 => ?_) (fun hc_5 => ?_)
          · unfold f_HM_reckon_68
            refine zk_gb (by omega) ?_
            refine zk_ifc (zci_eqr (by omega)) (fun hc_6 => ?_) (fun hc_6 => ?_)
            · refine zk_g0zl_w (by omega) ?_
              refine zk_nE (fun v1_2 h_v1_2 => ?_)
              exact zk_ret ⟨by dsimp only; omega, by dsimp only; omega⟩
            · exact zk_ret ⟨by dsimp only; omega, by dsimp only; omega⟩
          · unfold f_HM_reckon_68
            refine zk_gb (by omega) ?_
            refine zk_ifc (zci_eqr (by omega)) (fun hc_7 => ?_) (fun hc_7 => ?_)
            · exfalso; omega
            · exact zk_ret ⟨by dsimp only; omega, by dsimp only; omega⟩
        · refine zk_ifc (zci_eqr (by omega)) (fun hc_8 => ?_) (fun hc_8 => ?_)
          · refine zk_ifc (zcl_le (by omega) (by omega)) (fun hc_9 => ?_) (fun hc_9 => ?_)
            · exact zk_ret ⟨by dsimp only; omega, by dsimp only; omega⟩
            · exact zk_ret ⟨by dsimp only; omega, by dsimp only; omega⟩
          · refine zk_ifc (zci_eqr (by omega)) (fun hc_10 => ?_) (fun hc_10 => ?_)
            · refine zk_ifc (zcl_le (by omega) (by omega)) (fun hc_11 => ?_) (fun hc_11 => ?_)
              · exact zk_ret ⟨by dsimp only; omega, by dsimp only; omega⟩
              · exact zk_ret ⟨by dsimp only; omega, by dsimp only; omega⟩
            · refine zk_ifc (zcl_ne (by omega) (by omega)) (fun hc_12 => ?_) (fun hc_12 => ?_)
              · exact zk_ret ⟨by dsimp only; omega, by dsimp only; omega⟩
              · exact zk_ret ⟨by dsimp only; omega, by dsimp only; omega⟩
theorem s_HM_reckonAll_10 (i_law : Int) (i_row i_set : Nat → Int) (L s e : Nat) (D : Nat → Nat) (hL : i_law = (L : Int)) (hL2 : L ≤ 4680) (he : e ≤ 400) (hD : ∀ k, s ≤ k → k ≤ e → D k ≤ 400) (hc : ∀ k, s ≤ k → k < e → zcs (fun j => i_row (L + j)) D e k) (hset : ∀ j, 1 ≤ j → j < 9 → -2147483648 ≤ i_set j ∧ i_set j ≤ 2147483647) : ∀ (n : Nat) (x2 x3 x4 i_broken i_value : Int) (i_rest : Nat → Int), x2 = (e : Int) → ((i_broken = 1 ∧ 1 ≤ n ∧ -1 ≤ x3 ∧ x3 ≤ 400 ∧ 0 ≤ x4 ∧ x4 ≤ 400) ∨ (i_broken = 0 ∧ ∃ k : Nat, x4 = (k : Int) ∧ s ≤ k ∧ k ≤ e ∧ x3 = (D k : Int) ∧ e + 2 ≤ n + k ∧ ∀ j, j < D k → -2147483648 ≤ i_rest j ∧ i_rest j ≤ 2147483649)) → zok (f_HM_reckonAll_10 i_law i_row i_set n x2 x3 x4 i_broken i_value i_rest) (fun o => (o.1 = 0 ∧ -2147483648 ≤ o.2.1 ∧ o.2.1 ≤ 2147483649) ∨ o.1 = 1) := by
  intro n
  induction n with
  | zero =>
    intro x2 x3 x4 i_broken i_value i_rest e2 h
    rcases h with ⟨_, h, _⟩ | ⟨_, k, _, _, _, _, _, _⟩ <;> (exfalso; omega)
  | succ n ih =>
    intro x2 x3 x4 i_broken i_value i_rest e2 h
    show zok (f_HM_reckonAll_10_b i_law i_row i_set (f_HM_reckonAll_10 i_law i_row i_set n) x2 x3 x4 i_broken i_value i_rest) _
    unfold f_HM_reckonAll_10_b
    rcases h with ⟨hb, hn, h3, h4, h5, h6⟩ | ⟨hb, k, hk, hsk, hke, hx3, hn, hr⟩
    · refine zk_ifc (zci_le (by omega) (by omega)) (fun hc => ?_) (fun hc => ?_)
      · unfold f_HM_reckonAll_245
        refine zk_ifc (zci_ler (by omega)) (fun hc_2 => ?_) (fun hc_2 => ?_)
        · exact zk_ret (Or.inr hb)
        · refine zk_gl 0 rfl (by decide) (by decide) (fun v1 h_v1 => ?_)
          exact zk_ret (Or.inr hb)
      · refine zk_ifc (zci_ner (by omega)) (fun hc_3 => ?_) (fun hc_3 => ?_)
        · unfold f_HM_reckonAll_245
          refine zk_ifc (zci_ler (by omega)) (fun hc_4 => ?_) (fun hc_4 => ?_)
          · exact zk_ret (Or.inr hb)
          · refine zk_gl 0 rfl (by decide) (by decide) (fun v1_2 h_v1_2 => ?_)
            exact zk_ret (Or.inr hb)
        · exfalso; omega
    · have hDk := hD k hsk hke
      refine zk_ifc (zci_le (by omega) (by omega)) (fun hq => ?_) (fun hq => ?_)
      · unfold f_HM_reckonAll_245
        refine zk_ifc (zci_ler (by omega)) (fun hc_2 => ?_) (fun hc_2 => ?_)
        · exact zk_ret (Or.inl ⟨hb, by dsimp only; omega, by dsimp only; omega⟩)
        · refine zk_gl 0 rfl (by decide) (by decide) (fun v1 h_v1 => ?_)
          have r0 := hr 0 (by omega)
          exact zk_ret (Or.inl ⟨hb, by dsimp only; omega, by dsimp only; omega⟩)
      · refine zk_ifc (zci_ner (by omega)) (fun hc_3 => ?_) (fun hc_3 => ?_)
        · exfalso; omega
        · have hz := hc k hsk (by omega)
          have hD1 := hD (k + 1) (by omega) (by omega)
          unfold zcs at hz
          dsimp only at hz
          refine zk_n ?_
          refine zk_n ?_
          refine zk_n ?_
          refine zk_gv (by omega) (by decide) (fun v4 h_v4 => ?_)
          rw [show (i_law + 98 + 2 * x4).toNat = L + (98 + 2 * k) from by omega] at h_v4
          refine zk_n ?_
          refine zk_n ?_
          refine zk_n ?_
          refine zk_n ?_
          refine zk_gv (by omega) (by decide) (fun v9 h_v9 => ?_)
          rw [show (i_law + 98 + 2 * x4 + 1).toNat = L + (99 + 2 * k) from by omega] at h_v9
          rw [← h_v4, ← h_v9] at hz
          refine zk_n ?_
          rcases hz with ⟨p1, p2, p3⟩ | ⟨p1, p2, p3, p4⟩ | ⟨p1, p2, p3⟩ | ⟨p1, p2, a, p3, p4, p5, p6⟩
          · refine zk_ifc (zci_le (by omega) (by omega)) (fun hc_5 => ?_) (fun hc_5 => ?_)
            · exfalso; omega
            · refine zk_ifc (zci_ner (by omega)) (fun hc_13 => ?_) (fun hc_13 => ?_)
              · refine zk_gv (by omega) (by decide) (fun v29 h_v29 => ?_)
                have r29 := hset v4.toNat (by omega) (by omega)
                unfold f_HM_reckonAll_96
                refine zk_sv (by omega) (by decide) (fun a1 h_a1 => ?_)
                refine zk_n ?_
                unfold f_HM_reckonAll_242
                refine ih _ _ _ _ _ _ e2 (Or.inr ⟨hb, k + 1, by omega, by omega, by omega, by omega, by omega, fun j hj => ?_⟩)
                have z1 := zu_rd h_a1 j
                have z2 := hr j
                omega
              · refine zk_nE (fun v30 h_v30 => ?_)
                have r30 := zi_r v9
                unfold f_HM_reckonAll_96
                refine zk_sv (by omega) (by decide) (fun a1_2 h_a1_2 => ?_)
                refine zk_n ?_
                unfold f_HM_reckonAll_242
                refine ih _ _ _ _ _ _ e2 (Or.inr ⟨hb, k + 1, by omega, by omega, by omega, by omega, by omega, fun j hj => ?_⟩)
                have z1 := zu_rd h_a1_2 j
                have z2 := hr j
                omega
          · refine zk_ifc (zci_le (by omega) (by omega)) (fun hc_5 => ?_) (fun hc_5 => ?_)
            · refine zk_ifc (zci_le (by omega) (by omega)) (fun hc_6 => ?_) (fun hc_6 => ?_)
              · exfalso; omega
              · refine zk_n ?_
                refine zk_n ?_
                refine zk_n ?_
                refine zk_gv (by omega) (by decide) (fun v21 h_v21 => ?_)
                refine zk_gv (by omega) (by decide) (fun v22 h_v22 => ?_)
                have r21 := hr (x3 + -1 - 1).toNat (by omega)
                have r22 := hr (x3 + -1).toNat (by omega)
                refine zk_d2 (s_HM_reckon _ _ _ _ (by omega) (by omega) (by omega) hb) (fun v23 v24 hp => ?_)
                dsimp only at hp
                obtain ⟨hp1, hp2⟩ := hp
                refine zk_sv (by omega) (by decide) (fun a25 h_a25 => ?_)
                refine zk_ifc (zci_ner (by omega)) (fun hc_11 => ?_) (fun hc_11 => ?_)
                · unfold f_HM_reckonAll_169
                  unfold f_HM_reckonAll_174
                  refine zk_gb (by omega) ?_
                  unfold f_HM_reckonAll_242
                  exact ih _ _ _ _ _ _ e2 (Or.inl ⟨rfl, by omega, by omega, by omega, by omega, by omega⟩)
                · refine zk_n ?_
                  refine zk_gv (by omega) (by decide) (fun v27 h_v27 => ?_)
                  have z_v27 := zu_rd h_a25 ((x3 + -1 - 1).toNat)
                  refine zk_d1 (s_HM_in _ _ _ (by omega) (by omega) (by omega)) (fun v28 hp_2 => ?_)
                  try dsimp only at hp_2
                  refine zk_ifc (zci_ner (by omega)) (fun hc_12 => ?_) (fun hc_12 => ?_)
                  · unfold f_HM_reckonAll_174
                    refine zk_gb (by omega) ?_
                    unfold f_HM_reckonAll_242
                    refine ih _ _ _ _ _ _ e2 (Or.inr ⟨rfl, k + 1, by omega, by omega, by omega, by omega, by omega, fun j hj => ?_⟩)
                    have z1 := zu_rd h_a25 j
                    have z2 := hr j
                    omega
                  · unfold f_HM_reckonAll_169
                    unfold f_HM_reckonAll_174
                    refine zk_gb (by omega) ?_
                    unfold f_HM_reckonAll_242
                    exact ih _ _ _ _ _ _ e2 (Or.inl ⟨rfl, by omega, by omega, by omega, by omega, by omega⟩)
            · exfalso; omega
          · refine zk_ifc (zci_le (by omega) (by omega)) (fun hc_5 => ?_) (fun hc_5 => ?_)
            · refine zk_ifc (zci_le (by omega) (by omega)) (fun hc_6 => ?_) (fun hc_6 => ?_)
              · refine zk_ifc (zci_ne (by omega) (by omega)) (fun hc_7 => ?_) (fun hc_7 => ?_)
                · exfalso; omega
                · refine zk_n ?_
                  refine zk_n ?_
                  refine zk_gv (by omega) (by decide) (fun v15 h_v15 => ?_)
                  have r15 := hr (x3 - 1).toNat (by omega)
                  refine zk_n ?_
                  refine zk_sv (by omega) (by decide) (fun a17 h_a17 => ?_)
                  unfold f_HM_reckonAll_242
                  refine ih _ _ _ _ _ _ e2 (Or.inr ⟨hb, k + 1, by omega, by omega, by omega, by omega, by omega, fun j hj => ?_⟩)
                  have z1 := zu_rd h_a17 j
                  have z2 := hr j
                  omega
              · exfalso; omega
            · exfalso; omega
          · have hD2 := hD a (by omega) (by omega)
            refine zk_ifc (zci_le (by omega) (by omega)) (fun hc_5 => ?_) (fun hc_5 => ?_)
            · refine zk_ifc (zci_le (by omega) (by omega)) (fun hc_6 => ?_) (fun hc_6 => ?_)
              · refine zk_ifc (zci_ne (by omega) (by omega)) (fun hc_7 => ?_) (fun hc_7 => ?_)
                · refine zk_n ?_
                  refine zk_gv (by omega) (by decide) (fun v12 h_v12 => ?_)
                  have r12 := hr (x3 - 1).toNat (by omega)
                  refine zk_ifc (zci_ne (by omega) (by omega)) (fun hc_8 => ?_) (fun hc_8 => ?_)
                  · unfold f_HM_reckonAll_228
                    refine zk_ifc (zcl_ne (by omega) (by omega)) (fun hc_9 => ?_) (fun hc_9 => ?_)
                    · refine zk_n ?_
                      unfold f_HM_reckonAll_242
                      exact ih _ _ _ _ _ _ e2 (Or.inr ⟨hb, k + 1, by omega, by omega, by omega, by omega, by omega, fun j hj => hr j (by omega)⟩)
                    · unfold f_HM_reckonAll_242
                      exact ih _ _ _ _ _ _ e2 (Or.inr ⟨hb, a, by omega, by omega, by omega, by omega, by omega, fun j hj => hr j (by omega)⟩)
                  · unfold f_HM_reckonAll_228
                    refine zk_ifc (zcl_ne (by omega) (by omega)) (fun hc_10 => ?_) (fun hc_10 => ?_)
                    · refine zk_n ?_
                      unfold f_HM_reckonAll_242
                      exact ih _ _ _ _ _ _ e2 (Or.inr ⟨hb, k + 1, by omega, by omega, by omega, by omega, by omega, fun j hj => hr j (by omega)⟩)
                    · unfold f_HM_reckonAll_242
                      exact ih _ _ _ _ _ _ e2 (Or.inr ⟨hb, a, by omega, by omega, by omega, by omega, by omega, fun j hj => hr j (by omega)⟩)
                · exfalso; omega
              · exfalso; omega
            · exfalso; omega
theorem s_HM_reckonAll (x1 x2 : Int) (i_law : Int) (i_row i_set : Nat → Int) (i_broken i_value : Int) (i_rest : Nat → Int) (L s e : Nat) (hL : i_law = (L : Int)) (hL2 : L ≤ 4680) (h1 : x1 = (s : Int)) (h2 : x2 = (e : Int)) (hw : CWF (fun j => i_row (L + j)) s e) (hset : ∀ j, 1 ≤ j → j < 9 → -2147483648 ≤ i_set j ∧ i_set j ≤ 2147483647) : zok (f_HM_reckonAll x1 x2 i_law i_row i_set i_broken i_value i_rest) (fun o => (o.1 = 0 ∧ -2147483648 ≤ o.2.1 ∧ o.2.1 ≤ 2147483649) ∨ o.1 = 1) := by
  obtain ⟨w1, w2, D, d0, d1, d2⟩ := hw
  unfold f_HM_reckonAll
  exact s_HM_reckonAll_10 i_law i_row i_set L s e D hL hL2 w2 d1 d2 hset zfu _ _ _ _ _ _ h2 (Or.inr ⟨rfl, s, h1, Nat.le_refl _, w1, by rw [d0]; rfl, by unfold zfu; omega, fun j hj => absurd hj (by omega)⟩)
theorem s_HM_isSo (x1 : Int) (i_law : Int) (i_row i_set : Nat → Int) (i_broken i_value i_sum : Int) (i_rest : Nat → Int) (L c : Nat) (hL : i_law = (L : Int)) (hL2 : L ≤ 4680) (hc : c < 12) (h1 : x1 = (L : Int) + 2 + 8 * (c : Int)) (hw : ∃ s1 e1 s2 e2 : Nat, (i_row (L + (2 + 8 * c)) = 0 ∨ i_row (L + (2 + 8 * c)) = 1) ∧ i_row (L + (5 + 8 * c)) = (s1 : Int) ∧ i_row (L + (6 + 8 * c)) = (e1 : Int) ∧ i_row (L + (7 + 8 * c)) = (s2 : Int) ∧ i_row (L + (8 + 8 * c)) = (e2 : Int) ∧ CWF (fun j => i_row (L + j)) s1 e1 ∧ CWF (fun j => i_row (L + j)) s2 e2) (hset : ∀ j, 1 ≤ j → j < 9 → -2147483648 ≤ i_set j ∧ i_set j ≤ 2147483647) : zok (f_HM_isSo x1 i_law i_row i_set i_broken i_value i_sum i_rest) (fun o => o.1 = 0 ∨ (o.1 = 1 ∧ (i_row (L + (2 + 8 * c)) = 1 ∨ (-2147483648 ≤ o.2.2.2.1 ∧ o.2.2.2.1 ≤ 2147483649)))) := by
  obtain ⟨s1, e1, s2, e2, q0, q1, q2, q3, q4, c1, c2⟩ := hw
  have k1 := c1.1
  have k2 := c1.2.1
  have k3 := c2.1
  have k4 := c2.2.1
  unfold f_HM_isSo
  refine zk_n ?_
  refine zk_gv (by omega) (by decide) (fun v2 h_v2 => ?_)
  rw [show (x1 + 5).toNat = L + (7 + 8 * c) from by omega] at h_v2
  refine zk_n ?_
  refine zk_gv (by omega) (by decide) (fun v4 h_v4 => ?_)
  rw [show (x1 + 6).toNat = L + (8 + 8 * c) from by omega] at h_v4
  have tail : ∀ (b v : Int) (r : Nat → Int), zok (f_HM_isSo_59 i_law i_row i_set x1 b v i_sum r) (fun o => o.1 = 0 ∨ (o.1 = 1 ∧ (i_row (L + (2 + 8 * c)) = 1 ∨ (-2147483648 ≤ o.2.2.2.1 ∧ o.2.2.2.1 ≤ 2147483649)))) := by
    intro b v r
    unfold f_HM_isSo_59
    refine zk_gv (by omega) (by decide) (fun v1_2 h_v1_2 => ?_)
    rw [show x1.toNat = L + (2 + 8 * c) from by omega] at h_v1_2
    refine zk_ifc (zci_ner (by omega)) (fun hc_2 => ?_) (fun hc_2 => ?_)
    · exact zk_ret (Or.inr ⟨rfl, Or.inl (by omega)⟩)
    · refine zk_n ?_
      refine zk_gv (by omega) (by decide) (fun v3_2 h_v3_2 => ?_)
      rw [show (x1 + 3).toNat = L + (5 + 8 * c) from by omega] at h_v3_2
      refine zk_n ?_
      refine zk_gv (by omega) (by decide) (fun v5 h_v5 => ?_)
      rw [show (x1 + 4).toNat = L + (6 + 8 * c) from by omega] at h_v5
      refine zk_d3 (s_HM_reckonAll _ _ _ _ _ _ _ _ L s1 e1 hL hL2 (by omega) (by omega) c1 hset) (fun v6 v7 a8 hp => ?_)
      dsimp only at hp
      refine zk_ifc (zci_ner (by omega)) (fun hc_3 => ?_) (fun hc_3 => ?_)
      · exact zk_ret (Or.inl rfl)
      · exact zk_ret (Or.inr ⟨rfl, Or.inr (by dsimp only; omega)⟩)
  refine zk_ifc (zci_le (by omega) (by omega)) (fun hc => ?_) (fun hc => ?_)
  · exact tail _ _ _
  · refine zk_n ?_
    refine zk_gv (by omega) (by decide) (fun v6_2 h_v6_2 => ?_)
    rw [show (x1 + 5).toNat = L + (7 + 8 * c) from by omega] at h_v6_2
    refine zk_n ?_
    refine zk_gv (by omega) (by decide) (fun v8 h_v8 => ?_)
    rw [show (x1 + 6).toNat = L + (8 + 8 * c) from by omega] at h_v8
    refine zk_d3 (s_HM_reckonAll _ _ _ _ _ _ _ _ L s2 e2 hL hL2 (by omega) (by omega) c2 hset) (fun v9 v10 a11 hp_2 => ?_)
    dsimp only at hp_2
    refine zk_ifc (zci_ner (by omega)) (fun hc_4 => ?_) (fun hc_4 => ?_)
    · exact zk_ret (Or.inl rfl)
    · refine zk_ifc (zcl_ne (by omega) (by omega)) (fun hc_5 => ?_) (fun hc_5 => ?_)
      · exact tail _ _ _
      · exact zk_ret (Or.inl rfl)
theorem s_HM_tiring_239 (i_row : Nat → Int) (x8 i_law i_broken i_value i_sum : Int) (i_set i_rest : Nat → Int) (h : -2147483648 ≤ x8 ∧ x8 ≤ 2147483649) : zok (f_HM_tiring_239 i_row x8 i_law i_broken i_value i_sum i_set i_rest) (fun o => 0 ≤ o.1 ∧ o.1 ≤ 99) := by
  unfold f_HM_tiring_239
  refine zk_ifc (zcl_le (by omega) (by omega)) (fun hc_2 => ?_) (fun hc_2 => ?_)
  · refine zk_ifc (zcl_le (by omega) (by omega)) (fun hc_3 => ?_) (fun hc_3 => ?_)
    · exact zk_ret ⟨by dsimp only; omega, by dsimp only; omega⟩
    · exact zk_ret ⟨by dsimp only; omega, by dsimp only; omega⟩
  · exact zk_ret ⟨by dsimp only; omega, by dsimp only; omega⟩
theorem s_HM_tiring_175 (i_row : Nat → Int) (L : Nat) (hL2 : L ≤ 4680) (hw : LWF (fun j => i_row (L + j))) : ∀ (n : Nat) (x8 x10 i_law i_broken i_value i_sum : Int) (i_set i_rest : Nat → Int), i_law = (L : Int) → (-2147483648 ≤ x8 ∧ x8 ≤ 2147483649) → (0 ≤ x10 ∧ x10 ≤ 12) → (∀ j, 1 ≤ j → j < 9 → -2147483648 ≤ i_set j ∧ i_set j ≤ 2147483647) → 13 - x10 < (n : Int) → zok (f_HM_tiring_175 i_row n x8 x10 i_law i_broken i_value i_sum i_set i_rest) (fun o => -1 ≤ o.1 ∧ o.1 ≤ 99) := by
  obtain ⟨w1, w2, w3⟩ := hw
  dsimp only at w1 w2 w3
  intro n
  induction n with
  | zero => intro x8 x10 i_law i_broken i_value i_sum i_set i_rest hL h8 h10 hs hm; exfalso; omega
  | succ n ih =>
    intro x8 x10 i_law i_broken i_value i_sum i_set i_rest hL h8 h10 hs hm
    show zok (f_HM_tiring_175_b i_row (f_HM_tiring_175 i_row n) x8 x10 i_law i_broken i_value i_sum i_set i_rest) _
    unfold f_HM_tiring_175_b
    refine zk_n ?_
    refine zk_gv (by omega) (by decide) (fun v2 h_v2 => ?_)
    rw [show (i_law + 1).toNat = L + 1 from by omega] at h_v2
    refine zk_ifc (zci_le (by omega) (by omega)) (fun hc => ?_) (fun hc => ?_)
    · exact zok_mono (s_HM_tiring_239 _ _ _ _ _ _ _ _ h8) (fun o ho => by omega)
    · refine zk_n ?_
      refine zk_n ?_
      refine zk_n ?_
      have hw3 := w3 x10.toNat (by omega)
      refine zk_d5 (s_HM_isSo _ _ _ _ _ _ _ _ L x10.toNat hL hL2 (by omega) (by omega) hw3 hs) (fun v6 v7 v8 v9 a10 hp => ?_)
      dsimp only at hp
      refine zk_ifc (zci_eqr (by omega)) (fun hc_4 => ?_) (fun hc_4 => ?_)
      · unfold f_HM_tiring_233
        refine zk_n ?_
        exact ih _ _ _ _ _ _ _ _ hL h8 (by omega) hs (by omega)
      · obtain ⟨s1, e1, s2, e2, q0, q1, q2, q3, q4, c1, c2⟩ := hw3
        refine zk_gv (by omega) (by decide) (fun v11 h_v11 => ?_)
        rw [show (i_law + 2 + 8 * x10).toNat = L + (2 + 8 * x10.toNat) from by omega] at h_v11
        refine zk_ifc (zci_ne (by omega) (by omega)) (fun hc_5 => ?_) (fun hc_5 => ?_)
        · unfold f_HM_tiring_233
          refine zk_n ?_
          exact ih _ _ _ _ _ _ _ _ hL (by omega) (by omega) hs (by omega)
        · exact zk_ret ⟨by dsimp only; omega, by dsimp only; omega⟩
theorem s_HM_tiring (x1 : Int) (x2 : Int) (x3 : Int) (x4 : Int) (x5 : Int) (x6 : Int) (i_row : Nat → Int) (i_law : Int) (i_broken : Int) (i_value : Int) (i_sum : Int) (i_set : Nat → Int) (i_rest : Nat → Int) (b_x1 : 0 ≤ x1 ∧ x1 ≤ 5) (b_x2 : (-2147483648) ≤ x2 ∧ x2 ≤ 2147483647) (b_x3 : 0 ≤ x3 ∧ x3 ≤ 11) (b_x4 : 0 ≤ x4 ∧ x4 ≤ 11) (b_x5 : (-2147483648) ≤ x5 ∧ x5 ≤ 2147483647) (b_x6 : (-2147483648) ≤ x6 ∧ x6 ≤ 2147483647) (h_i_row : RI i_row) : zok (f_HM_tiring x1 x2 x3 x4 x5 x6 i_row i_law i_broken i_value i_sum i_set i_rest) (fun o => (o.1 = -1 ∨ (0 ≤ o.1 ∧ o.1 ≤ 99 ∧ x5 ≠ 0 ∧ x6 ≤ 9 ∧ x3 ≠ x4))) := by
  unfold f_HM_tiring
  have q4 := RI_4 h_i_row
  have q3 := RI_3 h_i_row
  have q5 := RI_5 h_i_row
  refine zk_n ?_
  refine zk_n ?_
  refine zk_gv (by omega) (by decide) (fun v3 h_v3 => ?_)
  have r_v3 := RI_c h_i_row (i := 153 + 3 * x1) (by omega)
  refine zk_ifc (zci_eqr (by omega)) (fun hc => ?_) (fun hc => ?_)
  · exact zk_ret (Or.inl rfl)
  refine zk_ifc (zci_lt (by omega) (by omega)) (fun hc_2 => ?_) (fun hc_2 => ?_)
  · exact zk_ret (Or.inl rfl)
  refine zk_ifc (zci_eq (by omega) (by omega)) (fun hc_3 => ?_) (fun hc_3 => ?_)
  · exact zk_ret (Or.inl rfl)
  refine zk_n ?_
  refine zk_n ?_
  refine zk_n ?_
  refine zk_gv (by omega) (by decide) (fun v7 h_v7 => ?_)
  have r_v7 := RI_c h_i_row (i := 153 + 3 * x1 + 1) (by omega)
  refine zk_ifc (zci_eq (by omega) (by omega)) (fun hc_4 => ?_) (fun hc_4 => ?_)
  · exact zk_ret (Or.inl rfl)
  refine zk_ifc (zci_le (by omega) (by omega)) (fun hc_5 => ?_) (fun hc_5 => ?_)
  rotate_left
  · exact zk_ret (Or.inl rfl)
  refine zk_n ?_
  refine zk_d1 (s_HM_size _ (by omega)) (fun v9 hp => ?_)
  try dsimp only at hp
  refine zk_nE (fun v10 h_v10 => ?_)
  rw [zwi (by omega)] at h_v10
  refine zk_gl 4 rfl (by decide) (by decide) (fun v11 h_v11 => ?_)
  refine zk_ifc (zci_eq (by omega) (by omega)) (fun hc_6 => ?_) (fun hc_6 => ?_)
  · exact zok_mono (s_HM_tiring_239 _ _ _ _ _ _ _ _ (by omega)) (fun o ho => Or.inr ⟨ho.1, ho.2, hc, by omega, hc_3⟩)
  refine zk_gl 4 rfl (by decide) (by decide) (fun v12 h_v12 => ?_)
  refine zk_n ?_
  refine zk_n ?_
  refine zk_nE (fun v15 h_v15 => ?_)
  have r_v15 := zi_r x1
  rw [← h_v15] at r_v15
  refine zk_sl 1 rfl (by decide) (by decide) (fun a1 h_a1 => ?_)
  refine zk_nE (fun v17 h_v17 => ?_)
  have r_v17 := zi_r v3
  rw [← h_v17] at r_v17
  refine zk_sl 2 rfl (by decide) (by decide) (fun a2 h_a2 => ?_)
  refine zk_nE (fun v19 h_v19 => ?_)
  have r_v19 := zi_r x2
  rw [← h_v19] at r_v19
  refine zk_sl 3 rfl (by decide) (by decide) (fun a3 h_a3 => ?_)
  refine zk_nE (fun v21 h_v21 => ?_)
  have r_v21 := zi_r x3
  rw [← h_v21] at r_v21
  refine zk_sl 4 rfl (by decide) (by decide) (fun a4 h_a4 => ?_)
  refine zk_nE (fun v23 h_v23 => ?_)
  have r_v23 := zi_r x4
  rw [← h_v23] at r_v23
  refine zk_sl 5 rfl (by decide) (by decide) (fun a5 h_a5 => ?_)
  refine zk_nE (fun v25 h_v25 => ?_)
  have r_v25 := zi_r x5
  rw [← h_v25] at r_v25
  refine zk_sl 6 rfl (by decide) (by decide) (fun a6 h_a6 => ?_)
  refine zk_nE (fun v27 h_v27 => ?_)
  have r_v27 := zi_r x6
  rw [← h_v27] at r_v27
  refine zk_sl 7 rfl (by decide) (by decide) (fun a7 h_a7 => ?_)
  refine zk_gl 5 rfl (by decide) (by decide) (fun v29 h_v29 => ?_)
  refine zk_nE (fun v30 h_v30 => ?_)
  have r_v30 := zi_r v29
  rw [← h_v30] at r_v30
  refine zk_sl 8 rfl (by decide) (by decide) (fun a8 h_a8 => ?_)
  have hw := h_i_row.2.2 (i_row 4).toNat (by omega)
  refine zok_mono (s_HM_tiring_175 i_row (180 + 900 * (i_row 4).toNat) (by omega) hw zfu _ _ _ _ _ _ _ _ (by omega) (by omega) (by omega) ?_ (by unfold zfu; omega)) (fun o ho => ?_)
  · intro j j1 j2
    have e1 := zu_rd h_a1 j
    have e2 := zu_rd h_a2 j
    have e3 := zu_rd h_a3 j
    have e4 := zu_rd h_a4 j
    have e5 := zu_rd h_a5 j
    have e6 := zu_rd h_a6 j
    have e7 := zu_rd h_a7 j
    have e8 := zu_rd h_a8 j
    omega
  · rcases Int.lt_or_le o.1 0 with h0 | h0
    · exact Or.inl (by omega)
    · exact Or.inr ⟨h0, ho.2, hc, by omega, hc_3⟩
end
section
theorem s_HM_carrying (x1 : Int) (x2 : Int) (x3 : Int) (i_row : Nat → Int) (i_high : Nat → Int) (i_heaps : Nat → Int) (i_law : Int) (i_broken : Int) (i_value : Int) (i_sum : Int) (i_set : Nat → Int) (i_rest : Nat → Int) (b_x1 : 0 ≤ x1 ∧ x1 ≤ 5) (b_x2 : 0 ≤ x2 ∧ x2 ≤ 11) (b_x3 : 0 ≤ x3 ∧ x3 ≤ 11) (h_i_row : RI i_row) (h_i_high : zR i_high 0 10) (h_i_heaps : zR i_heaps 0 30) : zok (f_HM_carrying x1 x2 x3 i_row i_high i_heaps i_law i_broken i_value i_sum i_set i_rest) (fun o => (o.1 = -1 ∨ (0 ≤ o.1 ∧ o.1 ≤ 99 ∧ 1 ≤ i_high x2.toNat ∧ i_high x3.toNat ≤ 9 ∧ x2 ≠ x3))) := by
  unfold f_HM_carrying
  refine zk_d1 (s_HM_top _ _ _ (by omega) h_i_high h_i_heaps) (fun v1 hp => ?_)
  try dsimp only at hp
  have hpp0 := hp
  refine zk_gv (by omega) (by decide) (fun v2 h_v2 => ?_)
  have r_v2 := h_i_high (x2.toNat)
  refine zk_gv (by omega) (by decide) (fun v3 h_v3 => ?_)
  have r_v3 := h_i_high (x3.toNat)
  refine zk_d7 (s_HM_tiring _ _ _ _ _ _ _ _ _ _ _ _ _ (by omega) (by omega) (by omega) (by omega) (by omega) (by omega) h_i_row) (fun v4 v5 v6 v7 v8 a9 a10 hp_2 => ?_)
  try dsimp only at hp_2
  have hp_2p0 := hp_2
  refine zk_ret ?_
  try dsimp only
  all_goals exact (by omega)
theorem s_HM_load_31 (i_row : Nat → Int) (h_i_row : RI i_row) : ∀ (n : Nat) (x1 : Int) (i_high : Nat → Int) (i_heaps : Nat → Int), (0 ≤ x1 ∧ x1 ≤ 120) → (zR i_high 0 10) → (zR i_heaps 0 30) → (121 - x1) < (n : Int) → zok (f_HM_load_31 i_row n x1 i_high i_heaps) (fun o => zR o.1 0 10 ∧ zR o.2 0 30) := by
  intro n
  induction n with
  | zero => intro x1 i_high i_heaps b_x1 h_i_high h_i_heaps hm; exfalso; omega
  | succ n ih =>
    intro x1 i_high i_heaps b_x1 h_i_high h_i_heaps hm
    show zok (f_HM_load_31_b i_row (f_HM_load_31 i_row n) x1 i_high i_heaps) _
    unfold f_HM_load_31_b
    refine zk_ifc (zci_le (by omega) (by omega)) (fun hc => ?_) (fun hc => ?_)
    · refine zk_ret ?_
      try dsimp only
      exact ⟨h_i_high, h_i_heaps⟩
    · refine zk_n ?_
      refine zk_gv (by omega) (by decide) (fun v2 h_v2 => ?_)
      have r_v2 := RI_s h_i_row (i := (21 + x1)) (by omega)
      refine zk_sv (by omega) (by decide) (fun a3 h_a3 => ?_)
      have i_a3 : zR a3 0 30 := by rw [h_a3]; exact zR_zu h_i_heaps (by decide) (by decide) (by omega)
      refine zk_n ?_
      exact ih _ _ _ (by omega) h_i_high i_a3 (by omega)
theorem s_HM_load_2 (i_row : Nat → Int) (h_i_row : RI i_row) : ∀ (n : Nat) (x1 : Int) (i_high : Nat → Int) (i_heaps : Nat → Int), (0 ≤ x1 ∧ x1 ≤ 12) → (zR i_high 0 10) → (zR i_heaps 0 30) → (13 - x1) < (n : Int) → zok (f_HM_load_2 i_row n x1 i_high i_heaps) (fun o => zR o.1 0 10 ∧ zR o.2 0 30) := by
  intro n
  induction n with
  | zero => intro x1 i_high i_heaps b_x1 h_i_high h_i_heaps hm; exfalso; omega
  | succ n ih =>
    intro x1 i_high i_heaps b_x1 h_i_high h_i_heaps hm
    show zok (f_HM_load_2_b i_row (f_HM_load_2 i_row n) x1 i_high i_heaps) _
    unfold f_HM_load_2_b
    refine zk_ifc (zci_le (by omega) (by omega)) (fun hc => ?_) (fun hc => ?_)
    · exact s_HM_load_31 _ h_i_row zfu _ _ _ (by omega) h_i_high h_i_heaps (by unfold zfu; omega)
    · refine zk_n ?_
      refine zk_gv (by omega) (by decide) (fun v2 h_v2 => ?_)
      have r_v2 := RI_h h_i_row (i := (9 + x1)) (by omega)
      refine zk_sv (by omega) (by decide) (fun a3 h_a3 => ?_)
      have i_a3 : zR a3 0 10 := by rw [h_a3]; exact zR_zu h_i_high (by decide) (by decide) (by omega)
      refine zk_n ?_
      exact ih _ _ _ (by omega) i_a3 h_i_heaps (by omega)
theorem s_HM_load (i_row : Nat → Int) (i_high : Nat → Int) (i_heaps : Nat → Int) (h_i_row : RI i_row) (h_i_high : zR i_high 0 10) (h_i_heaps : zR i_heaps 0 30) : zok (f_HM_load i_row i_high i_heaps) (fun o => zR o.1 0 10 ∧ zR o.2 0 30) := by
  unfold f_HM_load
  exact s_HM_load_2 _ h_i_row zfu _ _ _ (by omega) h_i_high h_i_heaps (by unfold zfu; omega)
theorem s_HM_store_33 (i_high : Nat → Int) (i_heaps : Nat → Int) (h_i_high : zR i_high 0 10) (h_i_heaps : zR i_heaps 0 30) : ∀ (n : Nat) (x1 : Int) (i_row : Nat → Int), (0 ≤ x1 ∧ x1 ≤ 120) → (RI i_row) → (121 - x1) < (n : Int) → zok (f_HM_store_33 i_high i_heaps n x1 i_row) (fun o => RI o ∧ (∀ j : Nat, (j < 9 ∨ 141 ≤ j) → o j = i_row j)) := by
  intro n
  induction n with
  | zero => intro x1 i_row b_x1 h_i_row hm; exfalso; omega
  | succ n ih =>
    intro x1 i_row b_x1 h_i_row hm
    show zok (f_HM_store_33_b i_high i_heaps (f_HM_store_33 i_high i_heaps n) x1 i_row) _
    unfold f_HM_store_33_b
    refine zk_ifc (zci_le (by omega) (by omega)) (fun hc => ?_) (fun hc => ?_)
    · exact zk_ret ⟨h_i_row, by first | exact fun j _ => rfl | assumption | (intro j hj; simp only [zu_eq, zu, ↓reduceIte]; (repeat' split) <;> omega)⟩
    · refine zk_n ?_
      refine zk_gv (by omega) (by decide) (fun v2 h_v2 => ?_)
      have r_v2 := h_i_heaps (x1.toNat)
      refine zk_sv (by omega) (by decide) (fun a3 h_a3 => ?_)
      have i_a3 : RI a3 := by rw [h_a3]; exact RIz_s h_i_row (by omega) (by omega)
      refine zk_n ?_
      refine zok_mono (ih _ _ (by omega) i_a3 (by omega)) (fun o ho => ?_)
      try dsimp only at ho
      obtain ⟨ho_0, ho_1⟩ := ho
      exact ⟨ho_0, by intro j hj; first | exact ho_1 j hj | (rw [ho_1 j hj]; simp only [h_a3, zu, ↓reduceIte]; (repeat' split) <;> omega)⟩
theorem s_HM_store_2 (i_high : Nat → Int) (i_heaps : Nat → Int) (h_i_high : zR i_high 0 10) (h_i_heaps : zR i_heaps 0 30) : ∀ (n : Nat) (x1 : Int) (i_row : Nat → Int), (0 ≤ x1 ∧ x1 ≤ 12) → (RI i_row) → (13 - x1) < (n : Int) → zok (f_HM_store_2 i_high i_heaps n x1 i_row) (fun o => RI o ∧ (∀ j : Nat, (j < 9 ∨ 141 ≤ j) → o j = i_row j)) := by
  intro n
  induction n with
  | zero => intro x1 i_row b_x1 h_i_row hm; exfalso; omega
  | succ n ih =>
    intro x1 i_row b_x1 h_i_row hm
    show zok (f_HM_store_2_b i_high i_heaps (f_HM_store_2 i_high i_heaps n) x1 i_row) _
    unfold f_HM_store_2_b
    refine zk_d1 (s_HM_columns _ h_i_row) (fun v1 hp => ?_)
    try dsimp only at hp
    obtain ⟨hpp0, hpp1⟩ := hp
    refine zk_ifc (zci_le (by omega) (by omega)) (fun hc => ?_) (fun hc => ?_)
    · refine zok_mono (s_HM_store_33 _ _ h_i_high h_i_heaps zfu _ _ (by omega) h_i_row (by unfold zfu; omega)) (fun o ho => ?_)
      try dsimp only at ho
      obtain ⟨ho_0, ho_1⟩ := ho
      exact ⟨ho_0, by intro j hj; first | exact ho_1 j hj | (rw [ho_1 j hj]; simp only [zu_eq, zu, ↓reduceIte]; (repeat' split) <;> omega)⟩
    · refine zk_n ?_
      refine zk_gv (by omega) (by decide) (fun v3 h_v3 => ?_)
      have r_v3 := h_i_high (x1.toNat)
      refine zk_sv (by omega) (by decide) (fun a4 h_a4 => ?_)
      have i_a4 : RI a4 := by rw [h_a4]; exact RIz_h h_i_row (by omega) (by omega)
      refine zk_n ?_
      refine zok_mono (ih _ _ (by omega) i_a4 (by omega)) (fun o ho => ?_)
      try dsimp only at ho
      obtain ⟨ho_0, ho_1⟩ := ho
      exact ⟨ho_0, by intro j hj; first | exact ho_1 j hj | (rw [ho_1 j hj]; simp only [h_a4, zu, ↓reduceIte]; (repeat' split) <;> omega)⟩
theorem s_HM_store (i_high : Nat → Int) (i_heaps : Nat → Int) (i_row : Nat → Int) (h_i_high : zR i_high 0 10) (h_i_heaps : zR i_heaps 0 30) (h_i_row : RI i_row) : zok (f_HM_store i_high i_heaps i_row) (fun o => RI o ∧ (∀ j : Nat, (j < 9 ∨ 141 ≤ j) → o j = i_row j)) := by
  unfold f_HM_store
  refine zok_mono (s_HM_store_2 _ _ h_i_high h_i_heaps zfu _ _ (by omega) h_i_row (by unfold zfu; omega)) (fun o ho => ?_)
  try dsimp only at ho
  obtain ⟨ho_0, ho_1⟩ := ho
  exact ⟨ho_0, by intro j hj; first | exact ho_1 j hj | (rw [ho_1 j hj]; simp only [zu_eq, zu, ↓reduceIte]; (repeat' split) <;> omega)⟩
theorem s_HM_shift (x1 : Int) (x2 : Int) (i_high : Nat → Int) (i_heaps : Nat → Int) (b_x1 : 0 ≤ x1 ∧ x1 ≤ 11) (b_x2 : 0 ≤ x2 ∧ x2 ≤ 11) (h_i_high : zR i_high 0 10) (h_i_heaps : zR i_heaps 0 30) (p_0 : x1 ≠ x2) (p_1 : 1 ≤ i_high x1.toNat) (p_2 : i_high x2.toNat ≤ 9) : zok (f_HM_shift x1 x2 i_high i_heaps) (fun o => zR o.1 0 10 ∧ zR o.2 0 30 ∧ (o.1 = zu (zu i_high x1.toNat (i_high x1.toNat - 1)) x2.toNat (i_high x2.toNat + 1))) := by
  unfold f_HM_shift
  refine zk_d1 (s_HM_top _ _ _ (by omega) h_i_high h_i_heaps) (fun v1 hp => ?_)
  try dsimp only at hp
  have hpp0 := hp
  refine zk_gv (by omega) (by decide) (fun v2 h_v2 => ?_)
  have r_v2 := h_i_high (x1.toNat)
  refine zk_n ?_
  refine zk_sv (by omega) (by decide) (fun a4 h_a4 => ?_)
  have i_a4 : zR a4 0 10 := by rw [h_a4]; exact zR_zu h_i_high (by decide) (by decide) (by omega)
  refine zk_n ?_
  refine zk_gv (by omega) (by decide) (fun v6 h_v6 => ?_)
  have z_v6_a4 := zu_rd h_a4 (x2.toNat)
  have r_v6 := i_a4 (x2.toNat)
  refine zk_n ?_
  refine zk_sv (by omega) (by decide) (fun a8 h_a8 => ?_)
  have i_a8 : zR a8 0 30 := by rw [h_a8]; exact zR_zu h_i_heaps (by decide) (by decide) (by omega)
  refine zk_gv (by omega) (by decide) (fun v9 h_v9 => ?_)
  have z_v9_a4 := zu_rd h_a4 (x2.toNat)
  have r_v9 := i_a4 (x2.toNat)
  refine zk_n ?_
  refine zk_sv (by omega) (by decide) (fun a11 h_a11 => ?_)
  have i_a11 : zR a11 0 10 := by rw [h_a11]; exact zR_zu i_a4 (by decide) (by decide) (by omega)
  refine zk_ret ?_
  try dsimp only
  exact ⟨i_a11, i_a8, by rw [h_a11, h_a4, show v9 = i_high x2.toNat from by omega, h_v2]⟩
theorem s_HM_can (x1 : Int) (x2 : Int) (x3 : Int) (i_row : Nat → Int) (i_thrown : Int) (i_law : Int) (i_broken : Int) (i_value : Int) (i_sum : Int) (i_set : Nat → Int) (i_rest : Nat → Int) (i_high : Nat → Int) (i_heaps : Nat → Int) (b_x1 : (-2147483648) ≤ x1 ∧ x1 ≤ 2147483647) (b_x2 : (-2147483648) ≤ x2 ∧ x2 ≤ 2147483647) (b_x3 : (-2147483648) ≤ x3 ∧ x3 ≤ 2147483647) (h_i_row : RI i_row) (h_i_high : zR i_high 0 10) (h_i_heaps : zR i_heaps 0 30) : zok (f_HM_can x1 x2 x3 i_row i_thrown i_law i_broken i_value i_sum i_set i_rest i_high i_heaps) (fun o => zR o.2.2.2.2.2.2.2.2.1 0 10 ∧ zR o.2.2.2.2.2.2.2.2.2 0 30) := by
  unfold f_HM_can
  refine zk_d1 (s_HM_are _ _ _ _ (by omega) (by omega) (by omega) h_i_row) (fun v1 hp => ?_)
  try dsimp only at hp
  obtain ⟨hpp0, hpp1, hpp2⟩ := hp
  refine zk_ifc (zci_ner (by omega)) (fun hc => ?_) (fun hc => ?_)
  · refine zk_d2 (s_HM_load _ _ _ h_i_row h_i_high h_i_heaps) (fun a2 a3 hp_2 => ?_)
    try dsimp only at hp_2
    obtain ⟨hp_2p0, hp_2p1⟩ := hp_2
    refine zk_d7 (s_HM_carrying _ _ _ _ _ _ _ _ _ _ _ _ (by omega) (by omega) (by omega) h_i_row hp_2p0 hp_2p1) (fun v4 v5 v6 v7 v8 a9 a10 hp_3 => ?_)
    try dsimp only at hp_3
    have hp_3p0 := hp_3
    refine zk_ifc (zci_ne (by omega) (by omega)) (fun hc_2 => ?_) (fun hc_2 => ?_)
    · refine zk_ret ?_
      try dsimp only
      exact ⟨hp_2p0, hp_2p1⟩
    · refine zk_ret ?_
      try dsimp only
      exact ⟨hp_2p0, hp_2p1⟩
  · refine zk_ret ?_
    try dsimp only
    exact ⟨h_i_high, h_i_heaps⟩
theorem s_HM_tires (x1 : Int) (x2 : Int) (x3 : Int) (i_row : Nat → Int) (i_thrown : Int) (i_law : Int) (i_broken : Int) (i_value : Int) (i_sum : Int) (i_set : Nat → Int) (i_rest : Nat → Int) (i_high : Nat → Int) (i_heaps : Nat → Int) (b_x1 : (-2147483648) ≤ x1 ∧ x1 ≤ 2147483647) (b_x2 : (-2147483648) ≤ x2 ∧ x2 ≤ 2147483647) (b_x3 : (-2147483648) ≤ x3 ∧ x3 ≤ 2147483647) (h_i_row : RI i_row) (h_i_high : zR i_high 0 10) (h_i_heaps : zR i_heaps 0 30) : zok (f_HM_tires x1 x2 x3 i_row i_thrown i_law i_broken i_value i_sum i_set i_rest i_high i_heaps) (fun o => zR o.2.2.2.2.2.2.2.2.1 0 10 ∧ zR o.2.2.2.2.2.2.2.2.2 0 30) := by
  unfold f_HM_tires
  refine zk_d1 (s_HM_are _ _ _ _ (by omega) (by omega) (by omega) h_i_row) (fun v1 hp => ?_)
  try dsimp only at hp
  obtain ⟨hpp0, hpp1, hpp2⟩ := hp
  refine zk_ifc (zci_ner (by omega)) (fun hc => ?_) (fun hc => ?_)
  · refine zk_d2 (s_HM_load _ _ _ h_i_row h_i_high h_i_heaps) (fun a2 a3 hp_2 => ?_)
    try dsimp only at hp_2
    obtain ⟨hp_2p0, hp_2p1⟩ := hp_2
    refine zk_d7 (s_HM_carrying _ _ _ _ _ _ _ _ _ _ _ _ (by omega) (by omega) (by omega) h_i_row hp_2p0 hp_2p1) (fun v4 v5 v6 v7 v8 a9 a10 hp_3 => ?_)
    try dsimp only at hp_3
    have hp_3p0 := hp_3
    refine zk_ret ?_
    try dsimp only
    exact ⟨hp_2p0, hp_2p1⟩
  · refine zk_ret ?_
    try dsimp only
    exact ⟨h_i_high, h_i_heaps⟩
theorem s_HM_carry (x1 : Int) (x2 : Int) (x3 : Int) (i_thrown : Int) (i_status : Int) (i_law : Int) (i_broken : Int) (i_value : Int) (i_sum : Int) (i_refusals : Nat → Int) (i_row : Nat → Int) (i_set : Nat → Int) (i_rest : Nat → Int) (i_high : Nat → Int) (i_heaps : Nat → Int) (b_x1 : (-2147483648) ≤ x1 ∧ x1 ≤ 2147483647) (b_x2 : (-2147483648) ≤ x2 ∧ x2 ≤ 2147483647) (b_x3 : (-2147483648) ≤ x3 ∧ x3 ≤ 2147483647) (h_i_row : RI i_row) (h_i_high : zR i_high 0 10) (h_i_heaps : zR i_heaps 0 30) : zok (f_HM_carry x1 x2 x3 i_thrown i_status i_law i_broken i_value i_sum i_refusals i_row i_set i_rest i_high i_heaps) (fun o => RI o.2.2.2.2.2.2.2.2.1 ∧ zR o.2.2.2.2.2.2.2.2.2.2.2.1 0 10 ∧ zR o.2.2.2.2.2.2.2.2.2.2.2.2 0 30 ∧ (∀ j : Nat, (j < 9 ∨ 141 ≤ j) → o.2.2.2.2.2.2.2.2.1 j = i_row j)) := by
  unfold f_HM_carry
  refine zk_d1 (s_HM_are _ _ _ _ (by omega) (by omega) (by omega) h_i_row) (fun v1 hp => ?_)
  try dsimp only at hp
  obtain ⟨hpp0, hpp1, hpp2⟩ := hp
  refine zk_ifc (zci_ner (by omega)) (fun hc => ?_) (fun hc => ?_)
  · refine zk_d2 (s_HM_load _ _ _ h_i_row h_i_high h_i_heaps) (fun a2 a3 hp_2 => ?_)
    try dsimp only at hp_2
    obtain ⟨hp_2p0, hp_2p1⟩ := hp_2
    refine zk_d7 (s_HM_carrying _ _ _ _ _ _ _ _ _ _ _ _ (by omega) (by omega) (by omega) h_i_row hp_2p0 hp_2p1) (fun v4 v5 v6 v7 v8 a9 a10 hp_3 => ?_)
    try dsimp only at hp_3
    have hp_3p0 := hp_3
    refine zk_ifc (zci_ne (by omega) (by omega)) (fun hc_2 => ?_) (fun hc_2 => ?_)
    · refine zk_d1 (s_HM_top _ _ _ (by omega) hp_2p0 hp_2p1) (fun v11 hp_4 => ?_)
      try dsimp only at hp_4
      have hp_4p0 := hp_4
      refine zk_d2 (s_HM_shift _ _ _ _ (by omega) (by omega) hp_2p0 hp_2p1 (by omega) (by omega) (by omega)) (fun a12 a13 hp_5 => ?_)
      try dsimp only at hp_5
      obtain ⟨hp_5p0, hp_5p1, hp_5p2⟩ := hp_5
      refine zk_d1 (s_HM_store _ _ _ hp_5p0 hp_5p1 h_i_row) (fun a14 hp_6 => ?_)
      try dsimp only at hp_6
      obtain ⟨hp_6p0, hp_6p1⟩ := hp_6
      refine zk_d3 (s_HM_tell _ _ _ (by omega)) (fun v15 v16 a17 hp_7 => ?_)
      try dsimp only at hp_7
      obtain ⟨hp_7p0, hp_7p1⟩ := hp_7
      refine zk_ret ?_
      try dsimp only
      exact ⟨hp_6p0, hp_5p0, hp_5p1, by first | exact fun j _ => rfl | assumption | (intro j hj; simp only [zu_eq, zu, ↓reduceIte]; (repeat' split) <;> omega)⟩
    · refine zk_d3 (s_HM_tell _ _ _ (by omega)) (fun v18 v19 a20 hp_8 => ?_)
      try dsimp only at hp_8
      obtain ⟨hp_8p0, hp_8p1⟩ := hp_8
      refine zk_ret ?_
      try dsimp only
      exact ⟨h_i_row, hp_2p0, hp_2p1, by first | exact fun j _ => rfl | assumption | (intro j hj; simp only [zu_eq, zu, ↓reduceIte]; (repeat' split) <;> omega)⟩
  · refine zk_d3 (s_HM_tell _ _ _ (by omega)) (fun v21 v22 a23 hp_9 => ?_)
    try dsimp only at hp_9
    obtain ⟨hp_9p0, hp_9p1⟩ := hp_9
    refine zk_ret ?_
    try dsimp only
    exact ⟨h_i_row, h_i_high, h_i_heaps, by first | exact fun j _ => rfl | assumption | (intro j hj; simp only [zu_eq, zu, ↓reduceIte]; (repeat' split) <;> omega)⟩
theorem s_HM_exchange (x1 : Int) (x2 : Int) (x3 : Int) (x4 : Int) (i_thrown : Int) (i_status : Int) (i_law : Int) (i_broken : Int) (i_value : Int) (i_sum : Int) (i_refusals : Nat → Int) (i_row : Nat → Int) (i_set : Nat → Int) (i_rest : Nat → Int) (i_high : Nat → Int) (i_heaps : Nat → Int) (b_x1 : (-2147483648) ≤ x1 ∧ x1 ≤ 2147483647) (b_x2 : (-2147483648) ≤ x2 ∧ x2 ≤ 2147483647) (b_x3 : (-2147483648) ≤ x3 ∧ x3 ≤ 2147483647) (b_x4 : (-2147483648) ≤ x4 ∧ x4 ≤ 2147483647) (h_i_row : RI i_row) (h_i_high : zR i_high 0 10) (h_i_heaps : zR i_heaps 0 30) : zok (f_HM_exchange x1 x2 x3 x4 i_thrown i_status i_law i_broken i_value i_sum i_refusals i_row i_set i_rest i_high i_heaps) (fun o => RI o.2.2.2.2.2.2.2.2.1 ∧ zR o.2.2.2.2.2.2.2.2.2.2.2.1 0 10 ∧ zR o.2.2.2.2.2.2.2.2.2.2.2.2 0 30 ∧ (∀ j : Nat, (j < 9 ∨ 141 ≤ j) → o.2.2.2.2.2.2.2.2.1 j = i_row j)) := by
  unfold f_HM_exchange
  refine zk_d1 (s_HM_are _ _ _ _ (by omega) (by omega) (by omega) h_i_row) (fun v1 hp => ?_)
  try dsimp only at hp
  obtain ⟨hpp0, hpp1, hpp2⟩ := hp
  refine zk_ifc (zci_eqr (by omega)) (fun hc => ?_) (fun hc => ?_)
  · unfold f_HM_exchange_24
    refine zk_d3 (s_HM_tell _ _ _ (by omega)) (fun v1_2 v2 a3 hp_2 => ?_)
    try dsimp only at hp_2
    obtain ⟨hp_2p0, hp_2p1⟩ := hp_2
    refine zk_ret ?_
    try dsimp only
    exact ⟨h_i_row, h_i_high, h_i_heaps, by first | exact fun j _ => rfl | assumption | (intro j hj; simp only [zu_eq, zu, ↓reduceIte]; (repeat' split) <;> omega)⟩
  · refine zk_d1 (s_HM_isColumn _ _ (by omega) h_i_row) (fun v2_2 hp_3 => ?_)
    try dsimp only at hp_3
    obtain ⟨hp_3p0, hp_3p1⟩ := hp_3
    refine zk_ifc (zci_ner (by omega)) (fun hc_2 => ?_) (fun hc_2 => ?_)
    · refine zk_d2 (s_HM_load _ _ _ h_i_row h_i_high h_i_heaps) (fun a3_2 a4 hp_4 => ?_)
      try dsimp only at hp_4
      obtain ⟨hp_4p0, hp_4p1⟩ := hp_4
      refine zk_d7 (s_HM_carrying _ _ _ _ _ _ _ _ _ _ _ _ (by omega) (by omega) (by omega) h_i_row hp_4p0 hp_4p1) (fun v5 v6 v7 v8 v9 a10 a11 hp_5 => ?_)
      try dsimp only at hp_5
      have hp_5p0 := hp_5
      refine zk_ifc (zci_ne (by omega) (by omega)) (fun hc_3 => ?_) (fun hc_3 => ?_)
      · refine zk_d1 (s_HM_top _ _ _ (by omega) hp_4p0 hp_4p1) (fun v12 hp_6 => ?_)
        try dsimp only at hp_6
        have hp_6p0 := hp_6
        refine zk_d2 (s_HM_shift _ _ _ _ (by omega) (by omega) hp_4p0 hp_4p1 (by omega) (by omega) (by omega)) (fun a13 a14 hp_7 => ?_)
        try dsimp only at hp_7
        obtain ⟨hp_7p0, hp_7p1, hp_7p2⟩ := hp_7
        refine zk_d7 (s_HM_carrying _ _ _ _ _ _ _ _ _ _ _ _ (by omega) (by omega) (by omega) h_i_row hp_7p0 hp_7p1) (fun v15 v16 v17 v18 v19 a20 a21 hp_8 => ?_)
        try dsimp only at hp_8
        have hp_8p0 := hp_8
        refine zk_ifc (zci_ne (by omega) (by omega)) (fun hc_4 => ?_) (fun hc_4 => ?_)
        · refine zk_d1 (s_HM_top _ _ _ (by omega) hp_7p0 hp_7p1) (fun v22 hp_9 => ?_)
          try dsimp only at hp_9
          have hp_9p0 := hp_9
          refine zk_n ?_
          refine zk_d1 (s_HM_size _ (by omega)) (fun v24 hp_10 => ?_)
          try dsimp only at hp_10
          have hp_10p0 := hp_10
          refine zk_gl 8 rfl (by decide) (by decide) (fun v25 h_v25 => ?_)
          have r_v25 := RI_8 h_i_row
          refine zk_ifc (zci_le (by omega) (by omega)) (fun hc_5 => ?_) (fun hc_5 => ?_)
          · refine zk_d2 (s_HM_shift _ _ _ _ (by omega) (by omega) hp_7p0 hp_7p1 (by omega) (by omega) (by omega)) (fun a26 a27 hp_11 => ?_)
            try dsimp only at hp_11
            obtain ⟨hp_11p0, hp_11p1, hp_11p2⟩ := hp_11
            refine zk_d1 (s_HM_store _ _ _ hp_11p0 hp_11p1 h_i_row) (fun a28 hp_12 => ?_)
            try dsimp only at hp_12
            obtain ⟨hp_12p0, hp_12p1⟩ := hp_12
            refine zk_d3 (s_HM_tell _ _ _ (by omega)) (fun v29 v30 a31 hp_13 => ?_)
            try dsimp only at hp_13
            obtain ⟨hp_13p0, hp_13p1⟩ := hp_13
            refine zk_ret ?_
            try dsimp only
            exact ⟨hp_12p0, hp_11p0, hp_11p1, by first | exact fun j _ => rfl | assumption | (intro j hj; simp only [zu_eq, zu, ↓reduceIte]; (repeat' split) <;> omega)⟩
          · refine zk_d3 (s_HM_tell _ _ _ (by omega)) (fun v32 v33 a34 hp_14 => ?_)
            try dsimp only at hp_14
            obtain ⟨hp_14p0, hp_14p1⟩ := hp_14
            refine zk_ret ?_
            try dsimp only
            exact ⟨h_i_row, hp_7p0, hp_7p1, by first | exact fun j _ => rfl | assumption | (intro j hj; simp only [zu_eq, zu, ↓reduceIte]; (repeat' split) <;> omega)⟩
        · refine zk_d3 (s_HM_tell _ _ _ (by omega)) (fun v35 v36 a37 hp_15 => ?_)
          try dsimp only at hp_15
          obtain ⟨hp_15p0, hp_15p1⟩ := hp_15
          refine zk_ret ?_
          try dsimp only
          exact ⟨h_i_row, hp_7p0, hp_7p1, by first | exact fun j _ => rfl | assumption | (intro j hj; simp only [zu_eq, zu, ↓reduceIte]; (repeat' split) <;> omega)⟩
      · refine zk_d3 (s_HM_tell _ _ _ (by omega)) (fun v38 v39 a40 hp_16 => ?_)
        try dsimp only at hp_16
        obtain ⟨hp_16p0, hp_16p1⟩ := hp_16
        refine zk_ret ?_
        try dsimp only
        exact ⟨h_i_row, hp_4p0, hp_4p1, by first | exact fun j _ => rfl | assumption | (intro j hj; simp only [zu_eq, zu, ↓reduceIte]; (repeat' split) <;> omega)⟩
    · unfold f_HM_exchange_24
      refine zk_d3 (s_HM_tell _ _ _ (by omega)) (fun v1_3 v2_3 a3_3 hp_17 => ?_)
      try dsimp only at hp_17
      obtain ⟨hp_17p0, hp_17p1⟩ := hp_17
      refine zk_ret ?_
      try dsimp only
      exact ⟨h_i_row, h_i_high, h_i_heaps, by first | exact fun j _ => rfl | assumption | (intro j hj; simp only [zu_eq, zu, ↓reduceIte]; (repeat' split) <;> omega)⟩
theorem s_HM_steep (i_row : Nat → Int) (i_thrown : Int) (i_high : Nat → Int) (i_heaps : Nat → Int) (h_i_row : RI i_row) (h_i_high : zR i_high 0 10) (h_i_heaps : zR i_heaps 0 30) : zok (f_HM_steep i_row i_thrown i_high i_heaps) (fun o => zR o.2.2.1 0 10 ∧ zR o.2.2.2 0 30) := by
  unfold f_HM_steep
  refine zk_d2 (s_HM_load _ _ _ h_i_row h_i_high h_i_heaps) (fun a1 a2 hp => ?_)
  try dsimp only at hp
  obtain ⟨hpp0, hpp1⟩ := hp
  refine zk_d1 (s_HM_steepest _ _ h_i_row hpp0) (fun v3 hp_2 => ?_)
  try dsimp only at hp_2
  obtain ⟨hp_2p0, hp_2p1⟩ := hp_2
  refine zk_ret ?_
  try dsimp only
  exact ⟨hpp0, hpp1⟩
theorem s_HM_slideAll_7 (i_row : Nat → Int) (h_i_row : RI i_row) : ∀ (n : Nat) (x1 x2 : Int) (i_high i_heaps : Nat → Int), (x2 = -1 ∨ (0 ≤ x2 ∧ x2 < i_row 0 ∧ ((1 ≤ x2 ∧ i_high (x2 - 1).toNat + i_row 7 < i_high (x2).toNat) ∨ (x2 + 1 < i_row 0 ∧ i_high (x2 + 1).toNat + i_row 7 < i_high (x2).toNat)))) → zR i_high 0 10 → zR i_heaps 0 30 → zq i_high 12 < (n : Int) → zok (f_HM_slideAll_7 i_row n x1 x2 i_high i_heaps) (fun o => zR o.2.1 0 10 ∧ zR o.2.2 0 30) := by
  have q0 := RI_0 h_i_row
  have q7 := RI_7 h_i_row
  intro n
  induction n with
  | zero => intro x1 x2 i_high i_heaps h1 h_i_high h_i_heaps hm; have := zq_le h_i_high 12; exfalso; omega
  | succ n ih =>
    intro x1 x2 i_high i_heaps h1 h_i_high h_i_heaps hm
    show zok (f_HM_slideAll_7_b i_row (f_HM_slideAll_7 i_row n) x1 x2 i_high i_heaps) _
    have step : ∀ d : Int, 0 ≤ x2 ∧ x2 ≤ 11 → 0 ≤ d ∧ d ≤ 11 → x2 ≠ d → i_high d.toNat + i_row 7 < i_high x2.toNat → zok (f_HM_slideAll_34 i_row (f_HM_slideAll_7 i_row n) x1 x2 d i_high i_heaps) (fun o => zR o.2.1 0 10 ∧ zR o.2.2 0 30) := by
      intro d b1 b2 b3 b4
      have r1 := h_i_high x2.toNat
      have r2 := h_i_high d.toNat
      unfold f_HM_slideAll_34
      refine zk_d2 (s_HM_shift _ _ _ _ (by omega) (by omega) h_i_high h_i_heaps (by omega) (by omega) (by omega)) (fun a1 a2 hp => ?_)
      try dsimp only at hp
      obtain ⟨hp0, hp1, hp2⟩ := hp
      refine zk_n ?_
      refine zk_d1 (s_HM_steepest _ _ h_i_row hp0) (fun v4 hq => ?_)
      try dsimp only at hq
      obtain ⟨hq0, hq1⟩ := hq
      refine ih _ _ _ _ hq1 hp0 hp1 ?_
      have hz := zq_shift (h := i_high) (i := x2.toNat) (j := d.toNat) (by omega) (by omega) (by omega) (by omega)
      rw [hp2]
      omega
    unfold f_HM_slideAll_7_b
    refine zk_ifc (zci_eq (by omega) (by omega)) (fun hc => ?_) (fun hc => ?_)
    · exact zk_ret ⟨h_i_high, h_i_heaps⟩
    · refine zk_n ?_
      refine zk_d1 (s_HM_isSteep _ _ _ _ (by omega) (by omega) h_i_row h_i_high) (fun v2 hp => ?_)
      try dsimp only at hp
      obtain ⟨hp0, hp1, hp2⟩ := hp
      refine zk_ifc (zci_eqr (by omega)) (fun hc_2 => ?_) (fun hc_2 => ?_)
      · refine zk_n ?_
        exact step _ (by omega) (by omega) (by omega) (by omega)
      · refine zk_n ?_
        exact step _ (by omega) (by omega) (by omega) (by omega)
theorem s_HM_slideAll (i_row : Nat → Int) (i_high : Nat → Int) (i_heaps : Nat → Int) (h_i_row : RI i_row) (h_i_high : zR i_high 0 10) (h_i_heaps : zR i_heaps 0 30) : zok (f_HM_slideAll i_row i_high i_heaps) (fun o => zR o.2.1 0 10 ∧ zR o.2.2 0 30) := by
  unfold f_HM_slideAll
  refine zk_d1 (s_HM_steepest _ _ h_i_row h_i_high) (fun v1 hp => ?_)
  try dsimp only at hp
  obtain ⟨hp0, hp1⟩ := hp
  exact s_HM_slideAll_7 i_row h_i_row zfu _ _ _ _ hp1 h_i_high h_i_heaps (by have := zq_le h_i_high 12; unfold zfu; omega)
theorem s_HM_slide (i_thrown : Int) (i_row : Nat → Int) (i_high : Nat → Int) (i_heaps : Nat → Int) (h_i_row : RI i_row) (h_i_high : zR i_high 0 10) (h_i_heaps : zR i_heaps 0 30) : zok (f_HM_slide i_thrown i_row i_high i_heaps) (fun o => RI o.2.2.1 ∧ zR o.2.2.2.1 0 10 ∧ zR o.2.2.2.2 0 30 ∧ (∀ j : Nat, (j < 9 ∨ 141 ≤ j) → o.2.2.1 j = i_row j)) := by
  unfold f_HM_slide
  refine zk_d2 (s_HM_load _ _ _ h_i_row h_i_high h_i_heaps) (fun a1 a2 hp => ?_)
  try dsimp only at hp
  obtain ⟨hpp0, hpp1⟩ := hp
  refine zk_d3 (s_HM_slideAll _ _ _ h_i_row hpp0 hpp1) (fun v3 a4 a5 hp_2 => ?_)
  try dsimp only at hp_2
  obtain ⟨hp_2p0, hp_2p1⟩ := hp_2
  refine zk_d1 (s_HM_store _ _ _ hp_2p0 hp_2p1 h_i_row) (fun a6 hp_3 => ?_)
  try dsimp only at hp_3
  obtain ⟨hp_3p0, hp_3p1⟩ := hp_3
  refine zk_ret ?_
  try dsimp only
  exact ⟨hp_3p0, hp_2p0, hp_2p1, by first | exact fun j _ => rfl | assumption | (intro j hj; simp only [zu_eq, zu, ↓reduceIte]; (repeat' split) <;> omega)⟩
theorem s_HM_shade (x1 : Int) (i_row : Nat → Int) (i_thrown : Int) (i_high : Nat → Int) (i_heaps : Nat → Int) (b_x1 : (-2147483648) ≤ x1 ∧ x1 ≤ 2147483647) (h_i_row : RI i_row) (h_i_high : zR i_high 0 10) (h_i_heaps : zR i_heaps 0 30) : zok (f_HM_shade x1 i_row i_thrown i_high i_heaps) (fun o => zR o.2.2.1 0 10 ∧ zR o.2.2.2 0 30) := by
  unfold f_HM_shade
  refine zk_d2 (s_HM_load _ _ _ h_i_row h_i_high h_i_heaps) (fun a1 a2 hp => ?_)
  try dsimp only at hp
  obtain ⟨hpp0, hpp1⟩ := hp
  refine zk_ifc (zci_ne (by omega) (by omega)) (fun hc => ?_) (fun hc => ?_)
  · refine zk_d1 (s_HM_isParish _ _ (by omega) h_i_row) (fun v3 hp_2 => ?_)
    try dsimp only at hp_2
    obtain ⟨hp_2p0, hp_2p1⟩ := hp_2
    refine zk_ifc (zci_eqr (by omega)) (fun hc_2 => ?_) (fun hc_2 => ?_)
    · refine zk_ret ?_
      try dsimp only
      exact ⟨hpp0, hpp1⟩
    · refine zk_n ?_
      refine zk_gv (by omega) (by decide) (fun v5 h_v5 => ?_)
      have r_v5 := RI_p h_i_row (i := (171 + x1)) (by omega)
      refine zk_d1 (s_HM_shadeAt _ _ _ (by omega) h_i_row hpp0) (fun v6 hp_3 => ?_)
      try dsimp only at hp_3
      have hp_3p0 := hp_3
      refine zk_ret ?_
      try dsimp only
      exact ⟨hpp0, hpp1⟩
  · refine zk_d1 (s_HM_allShades _ _ h_i_row hpp0) (fun v7 hp_4 => ?_)
    try dsimp only at hp_4
    have hp_4p0 := hp_4
    refine zk_ret ?_
    try dsimp only
    exact ⟨hpp0, hpp1⟩
theorem s_HM_gains (x1 : Int) (x2 : Int) (x3 : Int) (x4 : Int) (i_row : Nat → Int) (i_thrown : Int) (i_law : Int) (i_broken : Int) (i_value : Int) (i_sum : Int) (i_set : Nat → Int) (i_rest : Nat → Int) (i_high : Nat → Int) (i_heaps : Nat → Int) (b_x1 : (-2147483648) ≤ x1 ∧ x1 ≤ 2147483647) (b_x2 : (-2147483648) ≤ x2 ∧ x2 ≤ 2147483647) (b_x3 : (-2147483648) ≤ x3 ∧ x3 ≤ 2147483647) (b_x4 : (-2147483648) ≤ x4 ∧ x4 ≤ 2147483647) (h_i_row : RI i_row) (h_i_high : zR i_high 0 10) (h_i_heaps : zR i_heaps 0 30) : zok (f_HM_gains x1 x2 x3 x4 i_row i_thrown i_law i_broken i_value i_sum i_set i_rest i_high i_heaps) (fun o => zR o.2.2.2.2.2.2.2.2.1 0 10 ∧ zR o.2.2.2.2.2.2.2.2.2 0 30) := by
  unfold f_HM_gains
  refine zk_d1 (s_HM_isParish _ _ (by omega) h_i_row) (fun v1 hp => ?_)
  try dsimp only at hp
  obtain ⟨hpp0, hpp1⟩ := hp
  refine zk_ifc (zci_eqr (by omega)) (fun hc => ?_) (fun hc => ?_)
  · refine zk_ret ?_
    try dsimp only
    exact ⟨h_i_high, h_i_heaps⟩
  · refine zk_d1 (s_HM_are _ _ _ _ (by omega) (by omega) (by omega) h_i_row) (fun v2 hp_2 => ?_)
    try dsimp only at hp_2
    obtain ⟨hp_2p0, hp_2p1, hp_2p2⟩ := hp_2
    refine zk_ifc (zci_ner (by omega)) (fun hc_2 => ?_) (fun hc_2 => ?_)
    · refine zk_d2 (s_HM_load _ _ _ h_i_row h_i_high h_i_heaps) (fun a3 a4 hp_3 => ?_)
      try dsimp only at hp_3
      obtain ⟨hp_3p0, hp_3p1⟩ := hp_3
      refine zk_d7 (s_HM_carrying _ _ _ _ _ _ _ _ _ _ _ _ (by omega) (by omega) (by omega) h_i_row hp_3p0 hp_3p1) (fun v5 v6 v7 v8 v9 a10 a11 hp_4 => ?_)
      try dsimp only at hp_4
      have hp_4p0 := hp_4
      refine zk_ifc (zci_ne (by omega) (by omega)) (fun hc_3 => ?_) (fun hc_3 => ?_)
      · refine zk_n ?_
        refine zk_gv (by omega) (by decide) (fun v13 h_v13 => ?_)
        have r_v13 := RI_p h_i_row (i := (171 + x1)) (by omega)
        refine zk_d1 (s_HM_shadeAt _ _ _ (by omega) h_i_row hp_3p0) (fun v14 hp_5 => ?_)
        try dsimp only at hp_5
        have hp_5p0 := hp_5
        refine zk_d2 (s_HM_shift _ _ _ _ (by omega) (by omega) hp_3p0 hp_3p1 (by omega) (by omega) (by omega)) (fun a15 a16 hp_6 => ?_)
        try dsimp only at hp_6
        obtain ⟨hp_6p0, hp_6p1, hp_6p2⟩ := hp_6
        refine zk_n ?_
        refine zk_gv (by omega) (by decide) (fun v18 h_v18 => ?_)
        have r_v18 := RI_p h_i_row (i := (171 + x1)) (by omega)
        refine zk_d1 (s_HM_shadeAt _ _ _ (by omega) h_i_row hp_6p0) (fun v19 hp_7 => ?_)
        try dsimp only at hp_7
        have hp_7p0 := hp_7
        refine zk_n ?_
        refine zk_ret ?_
        try dsimp only
        exact ⟨hp_6p0, hp_6p1⟩
      · refine zk_ret ?_
        try dsimp only
        exact ⟨hp_3p0, hp_3p1⟩
    · refine zk_ret ?_
      try dsimp only
      exact ⟨h_i_high, h_i_heaps⟩
theorem s_HM_rain_220 (i_row : Nat → Int) (k180 : Int → Int → Int → Int → Int → Int → (Nat → Int) → (Nat → Int) → (Nat → Int) → (Nat → Int) → Option (Int × Int × Int × Int × Int × (Nat → Int) × (Nat → Int) × (Nat → Int) × (Nat → Int))) (Nk180 : Nat) (hk180 : ∀ (x3 : Int) (x4 : Int) (i_thrown : Int) (i_status : Int) (i_state : Int) (i_wet : Int) (i_refusals : Nat → Int) (i_high : Nat → Int) (i_heaps : Nat → Int) (i_rained : Nat → Int), (0 ≤ x3 ∧ x3 ≤ 40) → (0 ≤ x4 ∧ x4 ≤ 12) → (0 ≤ i_wet ∧ i_wet ≤ 12) → (zR i_high 0 10) → (zR i_heaps 0 30) → (13 - x4) < (Nk180 : Int) → zok (k180 x3 x4 i_thrown i_status i_state i_wet i_refusals i_high i_heaps i_rained) (fun o => (0 ≤ o.2.2.2.2.1 ∧ o.2.2.2.2.1 ≤ 12) ∧ zR o.2.2.2.2.2.2.1 0 10 ∧ zR o.2.2.2.2.2.2.2.1 0 30)) (h_i_row : RI i_row) : ∀ (n : Nat) (x3 : Int) (x4 : Int) (x5 : Int) (i_thrown : Int) (i_status : Int) (i_state : Int) (i_wet : Int) (i_refusals : Nat → Int) (i_high : Nat → Int) (i_heaps : Nat → Int) (i_rained : Nat → Int), (0 ≤ x3 ∧ x3 ≤ 40) → (0 ≤ x4 ∧ x4 ≤ 11) → (0 ≤ x5 ∧ x5 ≤ 10) → (0 ≤ i_wet ∧ i_wet ≤ 12) → (zR i_high 0 10) → (zR i_heaps 0 30) → (13 - x4) < (Nk180 : Int) + 1 → (11 - x5) < (n : Int) → zok (f_HM_rain_220 i_row k180 n x3 x4 x5 i_thrown i_status i_state i_wet i_refusals i_high i_heaps i_rained) (fun o => (0 ≤ o.2.2.2.2.1 ∧ o.2.2.2.2.1 ≤ 12) ∧ zR o.2.2.2.2.2.2.1 0 10 ∧ zR o.2.2.2.2.2.2.2.1 0 30) := by
  intro n
  induction n with
  | zero => intro x3 x4 x5 i_thrown i_status i_state i_wet i_refusals i_high i_heaps i_rained b_x3 b_x4 b_x5 b_i_wet h_i_high h_i_heaps mk180 hm; exfalso; omega
  | succ n ih =>
    intro x3 x4 x5 i_thrown i_status i_state i_wet i_refusals i_high i_heaps i_rained b_x3 b_x4 b_x5 b_i_wet h_i_high h_i_heaps mk180 hm
    show zok (f_HM_rain_220_b i_row k180 (f_HM_rain_220 i_row k180 n) x3 x4 x5 i_thrown i_status i_state i_wet i_refusals i_high i_heaps i_rained) _
    unfold f_HM_rain_220_b
    refine zk_gv (by omega) (by decide) (fun v1 h_v1 => ?_)
    have r_v1 := h_i_high (x4.toNat)
    refine zk_ifc (zci_le (by omega) (by omega)) (fun hc => ?_) (fun hc => ?_)
    · refine zk_n ?_
      exact hk180 _ _ _ _ _ _ _ _ _ _ (by omega) (by omega) (by omega) h_i_high h_i_heaps (by omega)
    · refine zk_n ?_
      refine zk_n ?_
      refine zk_gv (by omega) (by decide) (fun v5 h_v5 => ?_)
      refine zk_n ?_
      refine zk_n ?_
      refine zk_gv (by omega) (by decide) (fun v8 h_v8 => ?_)
      have r_v8 := h_i_heaps (((10 * x4) + x5).toNat)
      refine zk_n ?_
      refine zk_sv (by omega) (by decide) (fun a10 h_a10 => ?_)
      refine zk_n ?_
      exact ih _ _ _ _ _ _ _ _ _ _ _ (by omega) (by omega) (by omega) (by omega) h_i_high h_i_heaps (by omega) (by omega)
theorem s_HM_rain_180 (i_row : Nat → Int) (h_i_row : RI i_row) : ∀ (n : Nat) (x3 : Int) (x4 : Int) (i_thrown : Int) (i_status : Int) (i_state : Int) (i_wet : Int) (i_refusals : Nat → Int) (i_high : Nat → Int) (i_heaps : Nat → Int) (i_rained : Nat → Int), (0 ≤ x3 ∧ x3 ≤ 40) → (0 ≤ x4 ∧ x4 ≤ 12) → (0 ≤ i_wet ∧ i_wet ≤ 12) → (zR i_high 0 10) → (zR i_heaps 0 30) → (13 - x4) < (n : Int) → zok (f_HM_rain_180 i_row n x3 x4 i_thrown i_status i_state i_wet i_refusals i_high i_heaps i_rained) (fun o => (0 ≤ o.2.2.2.2.1 ∧ o.2.2.2.2.1 ≤ 12) ∧ zR o.2.2.2.2.2.2.1 0 10 ∧ zR o.2.2.2.2.2.2.2.1 0 30) := by
  intro n
  induction n with
  | zero => intro x3 x4 i_thrown i_status i_state i_wet i_refusals i_high i_heaps i_rained b_x3 b_x4 b_i_wet h_i_high h_i_heaps hm; exfalso; omega
  | succ n ih =>
    intro x3 x4 i_thrown i_status i_state i_wet i_refusals i_high i_heaps i_rained b_x3 b_x4 b_i_wet h_i_high h_i_heaps hm
    show zok (f_HM_rain_180_b i_row (f_HM_rain_180 i_row n) x3 x4 i_thrown i_status i_state i_wet i_refusals i_high i_heaps i_rained) _
    unfold f_HM_rain_180_b
    refine zk_ifc (zci_le (by omega) (by omega)) (fun hc => ?_) (fun hc => ?_)
    · refine zk_d3 (s_HM_tell _ _ _ (by omega)) (fun v1 v2 a3 hp => ?_)
      try dsimp only at hp
      obtain ⟨hpp0, hpp1⟩ := hp
      refine zk_ret ?_
      try dsimp only
      exact ⟨by omega, h_i_high, h_i_heaps⟩
    · refine zk_n ?_
      refine zk_gv (by omega) (by decide) (fun v5 h_v5 => ?_)
      have r_v5 := h_i_high (x4.toNat)
      refine zk_sv (by omega) (by decide) (fun a6 h_a6 => ?_)
      refine zk_n ?_
      refine zk_n ?_
      refine zk_sv (by omega) (by decide) (fun a9 h_a9 => ?_)
      exact s_HM_rain_220 _ _ n ih h_i_row zfu _ _ _ _ _ _ _ _ _ _ _ (by omega) (by omega) (by omega) (by omega) h_i_high h_i_heaps (by omega) (by unfold zfu; omega)
theorem s_HM_rain_58 (i_row : Nat → Int) (h_i_row : RI i_row) : ∀ (n : Nat) (x2 : Int) (x3 : Int) (x4 : Int) (i_thrown : Int) (i_status : Int) (i_state : Int) (i_wet : Int) (i_refusals : Nat → Int) (i_high : Nat → Int) (i_heaps : Nat → Int) (i_rained : Nat → Int), (1 ≤ x2 ∧ x2 ≤ 40) → (0 ≤ x3 ∧ x3 ≤ 40) → (0 ≤ x4 ∧ x4 ≤ 40) → (0 ≤ i_state ∧ i_state ≤ 1000002) → (0 ≤ i_wet ∧ i_wet ≤ 12) → (zR i_high 0 10) → (zR i_heaps 0 30) → (x3 ≤ x4) → (41 - x4) < (n : Int) → zok (f_HM_rain_58 i_row n x2 x3 x4 i_thrown i_status i_state i_wet i_refusals i_high i_heaps i_rained) (fun o => (0 ≤ o.2.2.2.2.1 ∧ o.2.2.2.2.1 ≤ 12) ∧ zR o.2.2.2.2.2.2.1 0 10 ∧ zR o.2.2.2.2.2.2.2.1 0 30) := by
  intro n
  induction n with
  | zero => intro x2 x3 x4 i_thrown i_status i_state i_wet i_refusals i_high i_heaps i_rained b_x2 b_x3 b_x4 b_i_state b_i_wet h_i_high h_i_heaps p_0 hm; exfalso; omega
  | succ n ih =>
    intro x2 x3 x4 i_thrown i_status i_state i_wet i_refusals i_high i_heaps i_rained b_x2 b_x3 b_x4 b_i_state b_i_wet h_i_high h_i_heaps p_0 hm
    show zok (f_HM_rain_58_b i_row (f_HM_rain_58 i_row n) x2 x3 x4 i_thrown i_status i_state i_wet i_refusals i_high i_heaps i_rained) _
    unfold f_HM_rain_58_b
    refine zk_ifc (zci_le (by omega) (by omega)) (fun hc => ?_) (fun hc => ?_)
    · unfold f_HM_rain_177
      exact s_HM_rain_180 _ h_i_row zfu _ _ _ _ _ _ _ _ _ _ (by omega) (by omega) (by omega) h_i_high h_i_heaps (by unfold zfu; omega)
    · refine zk_ifc (zci_ler (by omega)) (fun hc_2 => ?_) (fun hc_2 => ?_)
      · unfold f_HM_rain_177
        exact s_HM_rain_180 _ h_i_row zfu _ _ _ _ _ _ _ _ _ _ (by omega) (by omega) (by omega) h_i_high h_i_heaps (by unfold zfu; omega)
      · refine zk_n ?_
        refine zk_n ?_
        refine zk_g0zl_w (by omega) ?_
        refine zk_nE (fun v3 h_v3 => ?_)
        rw [zl_rem_n (by omega) (by omega)] at h_v3
        refine zk_nE (fun v4 h_v4 => ?_)
        rw [zwi (by omega)] at h_v4
        replace h_v4 := h_v4.symm
        subst h_v4
        refine zk_g0zl_w (by omega) ?_
        refine zk_nE (fun v5 h_v5 => ?_)
        rw [zl_rem_n (by omega) (by omega)] at h_v5
        have r_v5 := zemod v3 (w := i_wet) (by omega)
        refine zk_gv (by omega) (by decide) (fun v6 h_v6 => ?_)
        have r_v6 := h_i_high (v5.toNat)
        refine zk_ifc (zci_ler (by omega)) (fun hc_3 => ?_) (fun hc_3 => ?_)
        · unfold f_HM_rain_166
          refine zk_d3 (s_HM_slideAll _ _ _ h_i_row h_i_high h_i_heaps) (fun v1_2 a2 a3 hp => ?_)
          try dsimp only at hp
          obtain ⟨hpp0, hpp1⟩ := hp
          refine zk_n ?_
          exact ih _ _ _ _ _ _ _ _ _ _ _ (by omega) (by omega) (by omega) (by omega) (by omega) hpp0 hpp1 (by omega) (by omega)
        · refine zk_n ?_
          refine zk_ifc (zci_le (by omega) (by omega)) (fun hc_4 => ?_) (fun hc_4 => ?_)
          · unfold f_HM_rain_152
            refine zk_gv (by omega) (by decide) (fun v1_3 h_v1_3 => ?_)
            have r_v1_3 := h_i_high (v5.toNat)
            refine zk_n ?_
            refine zk_sv (by omega) (by decide) (fun a3_2 h_a3_2 => ?_)
            have i_a3_2 : zR a3_2 0 10 := by rw [h_a3_2]; exact zR_zu h_i_high (by decide) (by decide) (by omega)
            refine zk_n ?_
            unfold f_HM_rain_166
            refine zk_d3 (s_HM_slideAll _ _ _ h_i_row i_a3_2 h_i_heaps) (fun v1_4 a2_2 a3_3 hp_2 => ?_)
            try dsimp only at hp_2
            obtain ⟨hp_2p0, hp_2p1⟩ := hp_2
            refine zk_n ?_
            exact ih _ _ _ _ _ _ _ _ _ _ _ (by omega) (by omega) (by omega) (by omega) (by omega) hp_2p0 hp_2p1 (by omega) (by omega)
          · refine zk_n ?_
            refine zk_gv (by omega) (by decide) (fun v9 h_v9 => ?_)
            have r_v9 := h_i_high ((v5 + 1).toNat)
            refine zk_ifc (zci_le (by omega) (by omega)) (fun hc_5 => ?_) (fun hc_5 => ?_)
            · unfold f_HM_rain_152
              refine zk_gv (by omega) (by decide) (fun v1_5 h_v1_5 => ?_)
              have r_v1_5 := h_i_high (v5.toNat)
              refine zk_n ?_
              refine zk_sv (by omega) (by decide) (fun a3_4 h_a3_4 => ?_)
              have i_a3_4 : zR a3_4 0 10 := by rw [h_a3_4]; exact zR_zu h_i_high (by decide) (by decide) (by omega)
              refine zk_n ?_
              unfold f_HM_rain_166
              refine zk_d3 (s_HM_slideAll _ _ _ h_i_row i_a3_4 h_i_heaps) (fun v1_6 a2_3 a3_5 hp_3 => ?_)
              try dsimp only at hp_3
              obtain ⟨hp_3p0, hp_3p1⟩ := hp_3
              refine zk_n ?_
              exact ih _ _ _ _ _ _ _ _ _ _ _ (by omega) (by omega) (by omega) (by omega) (by omega) hp_3p0 hp_3p1 (by omega) (by omega)
            · refine zk_n ?_
              refine zk_d2 (s_HM_shift _ _ _ _ (by omega) (by omega) h_i_high h_i_heaps (by omega) (by omega) (by omega)) (fun a11 a12 hp_4 => ?_)
              try dsimp only at hp_4
              obtain ⟨hp_4p0, hp_4p1, hp_4p2⟩ := hp_4
              unfold f_HM_rain_166
              refine zk_d3 (s_HM_slideAll _ _ _ h_i_row hp_4p0 hp_4p1) (fun v1_7 a2_4 a3_6 hp_5 => ?_)
              try dsimp only at hp_5
              obtain ⟨hp_5p0, hp_5p1⟩ := hp_5
              refine zk_n ?_
              exact ih _ _ _ _ _ _ _ _ _ _ _ (by omega) (by omega) (by omega) (by omega) (by omega) hp_5p0 hp_5p1 (by omega) (by omega)
theorem s_HM_rain (x1 : Int) (x2 : Int) (i_row : Nat → Int) (i_thrown : Int) (i_status : Int) (i_state : Int) (i_wet : Int) (i_refusals : Nat → Int) (i_high : Nat → Int) (i_heaps : Nat → Int) (i_rained : Nat → Int) (b_x1 : (-2147483648) ≤ x1 ∧ x1 ≤ 2147483647) (b_x2 : (-2147483648) ≤ x2 ∧ x2 ≤ 2147483647) (h_i_row : RI i_row) (b_i_wet : 0 ≤ i_wet ∧ i_wet ≤ 12) (h_i_high : zR i_high 0 10) (h_i_heaps : zR i_heaps 0 30) : zok (f_HM_rain x1 x2 i_row i_thrown i_status i_state i_wet i_refusals i_high i_heaps i_rained) (fun o => (0 ≤ o.2.2.2.2.1 ∧ o.2.2.2.2.1 ≤ 12) ∧ zR o.2.2.2.2.2.2.1 0 10 ∧ zR o.2.2.2.2.2.2.2.1 0 30) := by
  unfold f_HM_rain
  refine zk_nE (fun v1 h_v1 => ?_)
  rw [zwi (by omega)] at h_v1
  replace h_v1 := h_v1.symm
  subst h_v1
  refine zk_d1 (s_HM_in _ _ _ (by omega) (by omega) (by omega)) (fun v2 hp => ?_)
  try dsimp only at hp
  have hpp0 := hp
  refine zk_ifc (zci_eqr (by omega)) (fun hc => ?_) (fun hc => ?_)
  · unfold f_HM_rain_29
    refine zk_d3 (s_HM_tell _ _ _ (by omega)) (fun v1_2 v2_2 a3 hp_2 => ?_)
    try dsimp only at hp_2
    obtain ⟨hp_2p0, hp_2p1⟩ := hp_2
    refine zk_ret ?_
    try dsimp only
    exact ⟨by omega, h_i_high, h_i_heaps⟩
  · refine zk_nE (fun v3 h_v3 => ?_)
    rw [zwi (by omega)] at h_v3
    replace h_v3 := h_v3.symm
    subst h_v3
    refine zk_d1 (s_HM_in _ _ _ (by omega) (by omega) (by omega)) (fun v4 hp_3 => ?_)
    try dsimp only at hp_3
    have hp_3p0 := hp_3
    refine zk_ifc (zci_ner (by omega)) (fun hc_2 => ?_) (fun hc_2 => ?_)
    · refine zk_d2 (s_HM_load _ _ _ h_i_row h_i_high h_i_heaps) (fun a5 a6 hp_4 => ?_)
      try dsimp only at hp_4
      obtain ⟨hp_4p0, hp_4p1⟩ := hp_4
      refine zk_nE (fun v7 h_v7 => ?_)
      rw [zwi (by omega)] at h_v7
      replace h_v7 := h_v7.symm
      subst h_v7
      refine zk_d1 (s_HM_columns _ h_i_row) (fun v8 hp_5 => ?_)
      try dsimp only at hp_5
      obtain ⟨hp_5p0, hp_5p1⟩ := hp_5
      exact s_HM_rain_58 _ h_i_row zfu _ _ _ _ _ _ _ _ _ _ _ (by omega) (by omega) (by omega) (by omega) (by omega) hp_4p0 hp_4p1 (by omega) (by unfold zfu; omega)
    · unfold f_HM_rain_29
      refine zk_d3 (s_HM_tell _ _ _ (by omega)) (fun v1_3 v2_3 a3_2 hp_6 => ?_)
      try dsimp only at hp_6
      obtain ⟨hp_6p0, hp_6p1⟩ := hp_6
      refine zk_ret ?_
      try dsimp only
      exact ⟨by omega, h_i_high, h_i_heaps⟩
end
section
/-! images -/
noncomputable def zIM (kp im : Nat → Int) : Prop := ∀ k : Nat, k < 2 → kp k ≠ 0 → RI (fun j => im (5580 * k + j))
theorem s_HM_image_23 (i_row : Nat → Int) (h_i_row : RI i_row) : ∀ (n : Nat) (x1 x2 i_thrown i_status : Int) (i_refusals i_images i_isKept : Nat → Int), (0 ≤ x1 ∧ x1 ≤ 1) → (0 ≤ x2 ∧ x2 ≤ 5580) → zR i_isKept 0 1 → (∀ j : Nat, (j : Int) < x2 → i_images (5580 * x1.toNat + j) = i_row j) → (∀ k : Nat, k < 2 → k ≠ x1.toNat → i_isKept k ≠ 0 → RI (fun j => i_images (5580 * k + j))) → 5581 - x2 < (n : Int) → zok (f_HM_image_23 i_row n x1 x2 i_thrown i_status i_refusals i_images i_isKept) (fun o => zR o.2.2.2.2.2 0 1 ∧ zIM o.2.2.2.2.2 o.2.2.2.2.1) := by
  intro n
  induction n with
  | zero => intro x1 x2 i_thrown i_status i_refusals i_images i_isKept b1 b2 hk hp hq hm; exfalso; omega
  | succ n ih =>
    intro x1 x2 i_thrown i_status i_refusals i_images i_isKept b1 b2 hk hp hq hm
    show zok (f_HM_image_23_b i_row (f_HM_image_23 i_row n) x1 x2 i_thrown i_status i_refusals i_images i_isKept) _
    unfold f_HM_image_23_b
    refine zk_ifc (zci_le (by omega) (by omega)) (fun hc => ?_) (fun hc => ?_)
    · refine zk_gb (by omega) ?_
      refine zk_sv (by omega) (by decide) (fun a1 h_a1 => ?_)
      have i_a1 : zR a1 0 1 := by rw [h_a1]; exact zR_zu hk (by decide) (by decide) (by omega)
      refine zk_d3 (s_HM_tell _ _ _ (by omega)) (fun v2 v3 a4 hq2 => ?_)
      refine zk_ret ⟨i_a1, fun k k1 k2 => ?_⟩
      dsimp only at k2 ⊢
      by_cases e : k = x1.toNat
      · refine RI_ext h_i_row (fun j hj => ?_)
        rw [e]
        exact hp j (by omega)
      · refine hq k k1 e ?_
        have z := zu_rd h_a1 k
        omega
    · refine zk_n ?_
      refine zk_n ?_
      refine zk_gv (by omega) (by decide) (fun v7 h_v7 => ?_)
      refine zk_sv (by omega) (by decide) (fun a8 h_a8 => ?_)
      refine zk_n ?_
      refine ih _ _ _ _ _ _ _ b1 (by omega) hk (fun j hj => ?_) (fun k k1 k2 k3 => ?_) (by omega)
      · have z := zu_rd h_a8 (5580 * x1.toNat + j)
        by_cases e : (j : Int) = x2
        · have e2 : x2.toNat = j := by omega
          rw [e2] at h_v7
          omega
        · have := hp j (by omega)
          omega
      · refine RI_ext (hq k k1 k2 k3) (fun j hj => ?_)
        have z := zu_rd h_a8 (5580 * k + j)
        have hk2 : k = 0 ∨ k = 1 := by omega
        have hx2 : x1.toNat = 0 ∨ x1.toNat = 1 := by omega
        rcases z with z | z
        · exfalso
          rcases hk2 with h1 | h1 <;> rcases hx2 with h2 | h2 <;> subst h1 <;> omega
        · exact z.2
theorem s_HM_back_39 (i_images i_isKept : Nat → Int) : ∀ (n : Nat) (x1 x2 i_thrown i_status : Int) (i_refusals i_row : Nat → Int), (0 ≤ x1 ∧ x1 ≤ 1) → (0 ≤ x2 ∧ x2 ≤ 5580) → RI (fun j => i_images (5580 * x1.toNat + j)) → (∀ j : Nat, (j : Int) < x2 → i_row j = i_images (5580 * x1.toNat + j)) → 5581 - x2 < (n : Int) → zok (f_HM_back_39 i_images i_isKept n x1 x2 i_thrown i_status i_refusals i_row) (fun o => RI o.2.2.2.2) := by
  intro n
  induction n with
  | zero => intro x1 x2 i_thrown i_status i_refusals i_row b1 b2 hr hp hm; exfalso; omega
  | succ n ih =>
    intro x1 x2 i_thrown i_status i_refusals i_row b1 b2 hr hp hm
    show zok (f_HM_back_39_b i_images i_isKept (f_HM_back_39 i_images i_isKept n) x1 x2 i_thrown i_status i_refusals i_row) _
    unfold f_HM_back_39_b
    refine zk_ifc (zci_le (by omega) (by omega)) (fun hc => ?_) (fun hc => ?_)
    · refine zk_d3 (s_HM_tell _ _ _ (by omega)) (fun v2 v3 a4 hq2 => ?_)
      exact zk_ret (RI_ext hr (fun j hj => hp j (by omega)))
    · refine zk_n ?_
      refine zk_n ?_
      refine zk_gv (by omega) (by decide) (fun v6 h_v6 => ?_)
      refine zk_sv (by omega) (by decide) (fun a7 h_a7 => ?_)
      refine zk_n ?_
      refine ih _ _ _ _ _ _ b1 (by omega) hr (fun j hj => ?_) (by omega)
      have z := zu_rd h_a7 j
      by_cases e : (j : Int) = x2
      · rw [show (5580 * x1 + x2).toNat = 5580 * x1.toNat + j from by omega] at h_v6
        omega
      · have := hp j (by omega)
        omega
theorem s_HM_image (x1 : Int) (i_row : Nat → Int) (i_thrown : Int) (i_status : Int) (i_refusals : Nat → Int) (i_images : Nat → Int) (i_isKept : Nat → Int) (b_x1 : (-2147483648) ≤ x1 ∧ x1 ≤ 2147483647) (h_i_row : RI i_row) (h_i_isKept : zR i_isKept 0 1) (p_0 : zIM i_isKept i_images) : zok (f_HM_image x1 i_row i_thrown i_status i_refusals i_images i_isKept) (fun o => zR o.2.2.2.2.2 0 1 ∧ (zIM o.2.2.2.2.2 o.2.2.2.2.1)) := by
  unfold f_HM_image
  refine zk_nE (fun v1 h_v1 => ?_)
  rw [zwi (by omega)] at h_v1
  refine zk_d1 (s_HM_in _ _ _ (by omega) (by omega) (by omega)) (fun v2 hp => ?_)
  try dsimp only at hp
  refine zk_ifc (zci_ner (by omega)) (fun hc => ?_) (fun hc => ?_)
  · exact s_HM_image_23 i_row h_i_row zfu _ _ _ _ _ _ _ (by omega) (by omega) h_i_isKept (fun j hj => absurd hj (by omega)) (fun k k1 k2 k3 => p_0 k k1 k3) (by unfold zfu; omega)
  · refine zk_d3 (s_HM_tell _ _ _ (by omega)) (fun v3 v4 a5 hq => ?_)
    exact zk_ret ⟨h_i_isKept, p_0⟩
theorem s_HM_back (x1 : Int) (i_images : Nat → Int) (i_isKept : Nat → Int) (i_thrown : Int) (i_status : Int) (i_refusals : Nat → Int) (i_row : Nat → Int) (b_x1 : (-2147483648) ≤ x1 ∧ x1 ≤ 2147483647) (h_i_isKept : zR i_isKept 0 1) (h_i_row : RI i_row) (p_0 : zIM i_isKept i_images) : zok (f_HM_back x1 i_images i_isKept i_thrown i_status i_refusals i_row) (fun o => RI o.2.2.2.2) := by
  unfold f_HM_back
  refine zk_nE (fun v1 h_v1 => ?_)
  rw [zwi (by omega)] at h_v1
  refine zk_d1 (s_HM_in _ _ _ (by omega) (by omega) (by omega)) (fun v2 hp => ?_)
  try dsimp only at hp
  refine zk_ifc (zci_ner (by omega)) (fun hc => ?_) (fun hc => ?_)
  · refine zk_gv (by omega) (by decide) (fun v3 h_v3 => ?_)
    have r_v3 := h_i_isKept x1.toNat
    refine zk_ifc (zci_ner (by omega)) (fun hc2 => ?_) (fun hc2 => ?_)
    · exact s_HM_back_39 i_images i_isKept zfu _ _ _ _ _ _ (by omega) (by omega) (p_0 x1.toNat (by omega) (by omega)) (fun j hj => absurd hj (by omega)) (by unfold zfu; omega)
    · refine zk_d3 (s_HM_tell _ _ _ (by omega)) (fun v3 v4 a5 hq => ?_)
      exact zk_ret h_i_row
  · refine zk_d3 (s_HM_tell _ _ _ (by omega)) (fun v3 v4 a5 hq => ?_)
    exact zk_ret h_i_row
theorem s_HM_bestToWeigh_9 (i_row : Nat → Int) (i_withOne : Nat → Int) (h_i_row : RI i_row) : ∀ (n : Nat) (x1 : Int) (x2 : Int) (x3 : Int) (x4 : Int), (0 ≤ x4 ∧ x4 ≤ 6) → (7 - x4) < (n : Int) → zok (f_HM_bestToWeigh_9 i_row i_withOne n x1 x2 x3 x4) (fun o => True) := by
  intro n
  induction n with
  | zero => intro x1 x2 x3 x4 b_x4 hm; exfalso; omega
  | succ n ih =>
    intro x1 x2 x3 x4 b_x4 hm
    show zok (f_HM_bestToWeigh_9_b i_row i_withOne (f_HM_bestToWeigh_9 i_row i_withOne n) x1 x2 x3 x4) _
    unfold f_HM_bestToWeigh_9_b
    refine zk_gl 1 rfl (by decide) (by decide) (fun v1 h_v1 => ?_)
    have r_v1 := RI_1 h_i_row
    refine zk_ifc (zci_le (by omega) (by omega)) (fun hc => ?_) (fun hc => ?_)
    · exact zk_ret trivial
    · refine zk_gv (by omega) (by decide) (fun v2 h_v2 => ?_)
      refine zk_gv (by omega) (by decide) (fun v3 h_v3 => ?_)
      refine zk_n ?_
      refine zk_if (fun hc_2 => ?_) (fun hc_2 => ?_)
      · refine zk_gv (by omega) (by decide) (fun v5 h_v5 => ?_)
        refine zk_n ?_
        unfold f_HM_bestToWeigh_58
        refine zk_if (fun hc_3 => ?_) (fun hc_3 => ?_)
        · unfold f_HM_bestToWeigh_72
          refine zk_if (fun hc_4 => ?_) (fun hc_4 => ?_)
          · unfold f_HM_bestToWeigh_85
            refine zk_n ?_
            exact ih _ _ _ _ (by omega) (by omega)
          · unfold f_HM_bestToWeigh_85
            refine zk_n ?_
            exact ih _ _ _ _ (by omega) (by omega)
        · unfold f_HM_bestToWeigh_72
          refine zk_if (fun hc_5 => ?_) (fun hc_5 => ?_)
          · unfold f_HM_bestToWeigh_85
            refine zk_n ?_
            exact ih _ _ _ _ (by omega) (by omega)
          · unfold f_HM_bestToWeigh_85
            refine zk_n ?_
            exact ih _ _ _ _ (by omega) (by omega)
      · refine zk_gv (by omega) (by decide) (fun v7 h_v7 => ?_)
        unfold f_HM_bestToWeigh_58
        refine zk_if (fun hc_6 => ?_) (fun hc_6 => ?_)
        · unfold f_HM_bestToWeigh_72
          refine zk_if (fun hc_7 => ?_) (fun hc_7 => ?_)
          · unfold f_HM_bestToWeigh_85
            refine zk_n ?_
            exact ih _ _ _ _ (by omega) (by omega)
          · unfold f_HM_bestToWeigh_85
            refine zk_n ?_
            exact ih _ _ _ _ (by omega) (by omega)
        · unfold f_HM_bestToWeigh_72
          refine zk_if (fun hc_8 => ?_) (fun hc_8 => ?_)
          · unfold f_HM_bestToWeigh_85
            refine zk_n ?_
            exact ih _ _ _ _ (by omega) (by omega)
          · unfold f_HM_bestToWeigh_85
            refine zk_n ?_
            exact ih _ _ _ _ (by omega) (by omega)
theorem s_HM_bestToWeigh (x1 : Int) (i_row : Nat → Int) (i_withOne : Nat → Int) (h_i_row : RI i_row) : zok (f_HM_bestToWeigh x1 i_row i_withOne) (fun o => True) := by
  unfold f_HM_bestToWeigh
  refine zk_n ?_
  exact s_HM_bestToWeigh_9 _ _ h_i_row zfu _ _ _ _ (by omega) (by unfold zfu; omega)
theorem s_HM_culprits_199 (i_row : Nat → Int) (k95 : Int → Int → Int → Int → Int → Int → Int → Int → Int → Int → (Nat → Int) → Option (Int × Int × (Nat → Int))) (Nk95 : Nat) (hk95 : ∀ (x1 : Int) (x2 : Int) (x3 : Int) (x4 : Int) (x5 : Int) (x6 : Int) (x7 : Int) (x8 : Int) (x9 : Int) (i_thrown : Int) (i_withOne : Nat → Int), (1 ≤ x1 ∧ x1 ≤ 9) → (0 ≤ x2 ∧ x2 ≤ 999) → (0 ≤ x3 ∧ x3 ≤ 4) → (0 ≤ x4 ∧ x4 ≤ 6) → (0 ≤ x5 ∧ x5 ≤ 64) → (0 ≤ x9 ∧ x9 ≤ 64) → (x5 ≤ x9) → (65 - x9) < (Nk95 : Int) → zok (k95 x1 x2 x3 x4 x5 x6 x7 x8 x9 i_thrown i_withOne) (fun o => True)) (h_i_row : RI i_row) : ∀ (n : Nat) (x1 : Int) (x2 : Int) (x3 : Int) (x4 : Int) (x5 : Int) (x6 : Int) (x7 : Int) (x8 : Int) (x9 : Int) (x11 : Int) (i_thrown : Int) (i_withOne : Nat → Int), (1 ≤ x1 ∧ x1 ≤ 9) → (0 ≤ x2 ∧ x2 ≤ 999) → (0 ≤ x3 ∧ x3 ≤ 4) → (0 ≤ x4 ∧ x4 ≤ 6) → (0 ≤ x5 ∧ x5 ≤ 64) → (0 ≤ x9 ∧ x9 ≤ 63) → (0 ≤ x11 ∧ x11 ≤ 6) → (x5 ≤ x9 + 1) → (65 - x9) < (Nk95 : Int) + 1 → (7 - x11) < (n : Int) → zok (f_HM_culprits_199 i_row k95 n x1 x2 x3 x4 x5 x6 x7 x8 x9 x11 i_thrown i_withOne) (fun o => True) := by
  intro n
  induction n with
  | zero => intro x1 x2 x3 x4 x5 x6 x7 x8 x9 x11 i_thrown i_withOne b_x1 b_x2 b_x3 b_x4 b_x5 b_x9 b_x11 p_0 mk95 hm; exfalso; omega
  | succ n ih =>
    intro x1 x2 x3 x4 x5 x6 x7 x8 x9 x11 i_thrown i_withOne b_x1 b_x2 b_x3 b_x4 b_x5 b_x9 b_x11 p_0 mk95 hm
    show zok (f_HM_culprits_199_b i_row k95 (f_HM_culprits_199 i_row k95 n) x1 x2 x3 x4 x5 x6 x7 x8 x9 x11 i_thrown i_withOne) _
    unfold f_HM_culprits_199_b
    refine zk_ifc (zci_le (by omega) (by omega)) (fun hc => ?_) (fun hc => ?_)
    · unfold f_HM_culprits_229
      refine zk_n ?_
      exact hk95 _ _ _ _ _ _ _ _ _ _ _ (by omega) (by omega) (by omega) (by omega) (by omega) (by omega) (by omega) (by omega)
    · refine zk_gv (by omega) (by decide) (fun v1_2 h_v1_2 => ?_)
      refine zk_nE (fun v2 h_v2 => ?_)
      have r_v2 := zi_shr_f x9 x11; rw [← h_v2] at r_v2
      refine zk_nE (fun v3 h_v3 => ?_)
      have r_v3 := zi_and_m v2 (m := 1) (by decide); rw [← h_v3] at r_v3
      refine zk_n ?_
      refine zk_sv (by omega) (by decide) (fun a5 h_a5 => ?_)
      refine zk_n ?_
      exact ih _ _ _ _ _ _ _ _ _ _ _ _ (by omega) (by omega) (by omega) (by omega) (by omega) (by omega) (by omega) (by omega) (by omega) (by omega)
theorem s_HM_culprits_110 (i_row : Nat → Int) (k95 : Int → Int → Int → Int → Int → Int → Int → Int → Int → Int → (Nat → Int) → Option (Int × Int × (Nat → Int))) (Nk95 : Nat) (hk95 : ∀ (x1 : Int) (x2 : Int) (x3 : Int) (x4 : Int) (x5 : Int) (x6 : Int) (x7 : Int) (x8 : Int) (x9 : Int) (i_thrown : Int) (i_withOne : Nat → Int), (1 ≤ x1 ∧ x1 ≤ 9) → (0 ≤ x2 ∧ x2 ≤ 999) → (0 ≤ x3 ∧ x3 ≤ 4) → (0 ≤ x4 ∧ x4 ≤ 6) → (0 ≤ x5 ∧ x5 ≤ 64) → (0 ≤ x9 ∧ x9 ≤ 64) → (x5 ≤ x9) → (65 - x9) < (Nk95 : Int) → zok (k95 x1 x2 x3 x4 x5 x6 x7 x8 x9 i_thrown i_withOne) (fun o => True)) (h_i_row : RI i_row) : ∀ (n : Nat) (x1 : Int) (x2 : Int) (x3 : Int) (x4 : Int) (x5 : Int) (x6 : Int) (x7 : Int) (x8 : Int) (x9 : Int) (x10 : Int) (x11 : Int) (i_thrown : Int) (i_withOne : Nat → Int), (1 ≤ x1 ∧ x1 ≤ 9) → (0 ≤ x2 ∧ x2 ≤ 999) → (0 ≤ x3 ∧ x3 ≤ 4) → (0 ≤ x4 ∧ x4 ≤ 6) → (0 ≤ x5 ∧ x5 ≤ 64) → (0 ≤ x9 ∧ x9 ≤ 63) → (0 ≤ x10 ∧ x10 ≤ 3240) → (0 ≤ x11 ∧ x11 ≤ 6) → (x5 ≤ x9) → (x10 ≤ 540 * x11) → (65 - x9) < (Nk95 : Int) + 1 → (7 - x11) < (n : Int) → zok (f_HM_culprits_110 i_row k95 n x1 x2 x3 x4 x5 x6 x7 x8 x9 x10 x11 i_thrown i_withOne) (fun o => True) := by
  intro n
  induction n with
  | zero => intro x1 x2 x3 x4 x5 x6 x7 x8 x9 x10 x11 i_thrown i_withOne b_x1 b_x2 b_x3 b_x4 b_x5 b_x9 b_x10 b_x11 p_0 p_1 mk95 hm; exfalso; omega
  | succ n ih =>
    intro x1 x2 x3 x4 x5 x6 x7 x8 x9 x10 x11 i_thrown i_withOne b_x1 b_x2 b_x3 b_x4 b_x5 b_x9 b_x10 b_x11 p_0 p_1 mk95 hm
    show zok (f_HM_culprits_110_b i_row k95 (f_HM_culprits_110 i_row k95 n) x1 x2 x3 x4 x5 x6 x7 x8 x9 x10 x11 i_thrown i_withOne) _
    unfold f_HM_culprits_110_b
    refine zk_ifc (zci_le (by omega) (by omega)) (fun hc => ?_) (fun hc => ?_)
    · refine zk_ifc (zci_ne (by omega) (by omega)) (fun hc_2 => ?_) (fun hc_2 => ?_)
      · unfold f_HM_culprits_229
        refine zk_n ?_
        exact hk95 _ _ _ _ _ _ _ _ _ _ _ (by omega) (by omega) (by omega) (by omega) (by omega) (by omega) (by omega) (by omega)
      · refine zk_ifc (zci_ner (by omega)) (fun hc_3 => ?_) (fun hc_3 => ?_)
        · unfold f_HM_culprits_177
          refine zk_n ?_
          refine zk_nE (fun v2 h_v2 => ?_)
          have r_v2 := zi_and_f x7 x9; rw [← h_v2] at r_v2
          refine zk_nE (fun v3 h_v3 => ?_)
          have r_v3 := zi_or_f x8 x9; rw [← h_v3] at r_v3
          exact s_HM_culprits_199 _ _ Nk95 hk95 h_i_row zfu _ _ _ _ _ _ _ _ _ _ _ _ (by omega) (by omega) (by omega) (by omega) (by omega) (by omega) (by omega) (by omega) (by omega) (by unfold zfu; omega)
        · unfold f_HM_culprits_177
          refine zk_n ?_
          refine zk_nE (fun v2_2 h_v2_2 => ?_)
          have r_v2_2 := zi_and_f x7 x9; rw [← h_v2_2] at r_v2_2
          refine zk_nE (fun v3_2 h_v3_2 => ?_)
          have r_v3_2 := zi_or_f x8 x9; rw [← h_v3_2] at r_v3_2
          exact s_HM_culprits_199 _ _ Nk95 hk95 h_i_row zfu _ _ _ _ _ _ _ _ _ _ _ _ (by omega) (by omega) (by omega) (by omega) (by omega) (by omega) (by omega) (by omega) (by omega) (by unfold zfu; omega)
    · refine zk_d1 (s_HM_is _ _ (by omega) (by omega)) (fun v1_4 hp => ?_)
      try dsimp only at hp
      have hpp0 := hp
      refine zk_ifc (zci_eqr (by omega)) (fun hc_4 => ?_) (fun hc_4 => ?_)
      · unfold f_HM_culprits_150
        refine zk_n ?_
        refine zk_n ?_
        exact ih _ _ _ _ _ _ _ _ _ _ _ _ _ (by omega) (by omega) (by omega) (by omega) (by omega) (by omega) (by omega) (by omega) (by omega) (by omega) (by omega) (by omega)
      · refine zk_n ?_
        refine zk_n ?_
        refine zk_n ?_
        refine zk_gv (by omega) (by decide) (fun v5 h_v5 => ?_)
        have r_v5 := RI_c h_i_row (i := ((153 + (3 * x11)) + 2)) (by omega)
        refine zk_nE (fun v6 h_v6 => ?_)
        have r_v6 := zmulb (a := x1) (b := v5) 9 60 (by omega) (by omega)
        unfold f_HM_culprits_150
        refine zk_n ?_
        refine zk_n ?_
        exact ih _ _ _ _ _ _ _ _ _ _ _ _ _ (by omega) (by omega) (by omega) (by omega) (by omega) (by omega) (by omega) (by omega) (by omega) (by omega) (by omega) (by omega)
theorem s_HM_culprits_95 (i_row : Nat → Int) (h_i_row : RI i_row) : ∀ (n : Nat) (x1 : Int) (x2 : Int) (x3 : Int) (x4 : Int) (x5 : Int) (x6 : Int) (x7 : Int) (x8 : Int) (x9 : Int) (i_thrown : Int) (i_withOne : Nat → Int), (1 ≤ x1 ∧ x1 ≤ 9) → (0 ≤ x2 ∧ x2 ≤ 999) → (0 ≤ x3 ∧ x3 ≤ 4) → (0 ≤ x4 ∧ x4 ≤ 6) → (0 ≤ x5 ∧ x5 ≤ 64) → (0 ≤ x9 ∧ x9 ≤ 64) → (x5 ≤ x9) → (65 - x9) < (n : Int) → zok (f_HM_culprits_95 i_row n x1 x2 x3 x4 x5 x6 x7 x8 x9 i_thrown i_withOne) (fun o => True) := by
  intro n
  induction n with
  | zero => intro x1 x2 x3 x4 x5 x6 x7 x8 x9 i_thrown i_withOne b_x1 b_x2 b_x3 b_x4 b_x5 b_x9 p_0 hm; exfalso; omega
  | succ n ih =>
    intro x1 x2 x3 x4 x5 x6 x7 x8 x9 i_thrown i_withOne b_x1 b_x2 b_x3 b_x4 b_x5 b_x9 p_0 hm
    show zok (f_HM_culprits_95_b i_row (f_HM_culprits_95 i_row n) x1 x2 x3 x4 x5 x6 x7 x8 x9 i_thrown i_withOne) _
    unfold f_HM_culprits_95_b
    refine zk_nE (fun v1 h_v1 => ?_)
    have r_v1 := zi_shl1 (y := x4) (by omega); rw [← h_v1] at r_v1
    refine zk_ifc (zci_le (by omega) (by omega)) (fun hc => ?_) (fun hc => ?_)
    · refine zk_ifc (zci_ner (by omega)) (fun hc_2 => ?_) (fun hc_2 => ?_)
      · refine zk_ifc (zci_ner (by omega)) (fun hc_3 => ?_) (fun hc_3 => ?_)
        · refine zk_ifc (zci_ne (by omega) (by omega)) (fun hc_4 => ?_) (fun hc_4 => ?_)
          · refine zk_ifc (zci_ne (by omega) (by omega)) (fun hc_5 => ?_) (fun hc_5 => ?_)
            · refine zk_ifc (zci_ne (by omega) (by omega)) (fun hc_6 => ?_) (fun hc_6 => ?_)
              · refine zk_d1 (s_HM_bestToWeigh _ _ _ h_i_row) (fun v2 hp => ?_)
                exact zk_ret trivial
              · refine zk_nE (fun v3 h_v3 => ?_)
                have r_v3 := zi_shl1 (y := x4) (by omega); rw [← h_v3] at r_v3
                refine zk_n ?_
                refine zk_nE (fun v5 h_v5 => ?_)
                have r_v5 := zi_xor_f x8 (-1); rw [← h_v5] at r_v5
                refine zk_nE (fun v6 h_v6 => ?_)
                have r_v6 := zi_and_f (v3 - 1) v5; rw [← h_v6] at r_v6
                exact zk_ret trivial
            · exact zk_ret trivial
          · exact zk_ret trivial
        · exact zk_ret trivial
      · exact zk_ret trivial
    · exact s_HM_culprits_110 _ _ n ih h_i_row zfu _ _ _ _ _ _ _ _ _ _ _ _ _ (by omega) (by omega) (by omega) (by omega) (by omega) (by omega) (by omega) (by omega) (by omega) (by omega) (by omega) (by unfold zfu; omega)
theorem s_HM_culprits_71 (i_row : Nat → Int) (h_i_row : RI i_row) : ∀ (n : Nat) (x1 : Int) (x2 : Int) (x3 : Int) (x4 : Int) (x5 : Int) (x6 : Int) (x7 : Int) (x8 : Int) (x9 : Int) (i_thrown : Int) (i_withOne : Nat → Int), (1 ≤ x1 ∧ x1 ≤ 9) → (0 ≤ x2 ∧ x2 ≤ 999) → (0 ≤ x3 ∧ x3 ≤ 4) → (0 ≤ x4 ∧ x4 ≤ 6) → (0 ≤ x5 ∧ x5 ≤ 0) → (0 ≤ x9 ∧ x9 ≤ 6) → (7 - x9) < (n : Int) → zok (f_HM_culprits_71 i_row n x1 x2 x3 x4 x5 x6 x7 x8 x9 i_thrown i_withOne) (fun o => True) := by
  intro n
  induction n with
  | zero => intro x1 x2 x3 x4 x5 x6 x7 x8 x9 i_thrown i_withOne b_x1 b_x2 b_x3 b_x4 b_x5 b_x9 hm; exfalso; omega
  | succ n ih =>
    intro x1 x2 x3 x4 x5 x6 x7 x8 x9 i_thrown i_withOne b_x1 b_x2 b_x3 b_x4 b_x5 b_x9 hm
    show zok (f_HM_culprits_71_b i_row (f_HM_culprits_71 i_row n) x1 x2 x3 x4 x5 x6 x7 x8 x9 i_thrown i_withOne) _
    unfold f_HM_culprits_71_b
    refine zk_ifc (zci_le (by omega) (by omega)) (fun hc => ?_) (fun hc => ?_)
    · exact s_HM_culprits_95 _ h_i_row zfu _ _ _ _ _ _ _ _ _ _ _ (by omega) (by omega) (by omega) (by omega) (by omega) (by omega) (by omega) (by unfold zfu; omega)
    · refine zk_sv (by omega) (by decide) (fun a1 h_a1 => ?_)
      refine zk_n ?_
      exact ih _ _ _ _ _ _ _ _ _ _ _ (by omega) (by omega) (by omega) (by omega) (by omega) (by omega) (by omega)
theorem s_HM_culprits (x1 : Int) (x2 : Int) (x3 : Int) (i_row : Nat → Int) (i_thrown : Int) (i_withOne : Nat → Int) (b_x1 : (-2147483648) ≤ x1 ∧ x1 ≤ 2147483647) (b_x2 : (-2147483648) ≤ x2 ∧ x2 ≤ 2147483647) (b_x3 : (-2147483648) ≤ x3 ∧ x3 ≤ 2147483647) (h_i_row : RI i_row) : zok (f_HM_culprits x1 x2 x3 i_row i_thrown i_withOne) (fun o => True) := by
  unfold f_HM_culprits
  refine zk_nE (fun v1 h_v1 => ?_)
  rw [zwi (by omega)] at h_v1
  replace h_v1 := h_v1.symm
  subst h_v1
  refine zk_d1 (s_HM_in _ _ _ (by omega) (by omega) (by omega)) (fun v2 hp => ?_)
  try dsimp only at hp
  have hpp0 := hp
  refine zk_ifc (zci_eqr (by omega)) (fun hc => ?_) (fun hc => ?_)
  · exact zk_ret trivial
  · refine zk_nE (fun v3 h_v3 => ?_)
    rw [zwi (by omega)] at h_v3
    replace h_v3 := h_v3.symm
    subst h_v3
    refine zk_d1 (s_HM_in _ _ _ (by omega) (by omega) (by omega)) (fun v4 hp_2 => ?_)
    try dsimp only at hp_2
    have hp_2p0 := hp_2
    refine zk_ifc (zci_eqr (by omega)) (fun hc_2 => ?_) (fun hc_2 => ?_)
    · exact zk_ret trivial
    · refine zk_nE (fun v5 h_v5 => ?_)
      rw [zwi (by omega)] at h_v5
      replace h_v5 := h_v5.symm
      subst h_v5
      refine zk_d1 (s_HM_in _ _ _ (by omega) (by omega) (by omega)) (fun v6 hp_3 => ?_)
      try dsimp only at hp_3
      have hp_3p0 := hp_3
      refine zk_ifc (zci_ner (by omega)) (fun hc_3 => ?_) (fun hc_3 => ?_)
      · refine zk_gl 1 rfl (by decide) (by decide) (fun v7 h_v7 => ?_)
        have r_v7 := RI_1 h_i_row
        refine zk_nE (fun v8 h_v8 => ?_)
        have r_v8 := zi_shl1 (y := v7) (by omega); rw [← h_v8] at r_v8
        refine zk_n ?_
        exact s_HM_culprits_71 _ h_i_row zfu _ _ _ _ _ _ _ _ _ _ _ (by omega) (by omega) (by omega) (by omega) (by omega) (by omega) (by unfold zfu; omega)
      · exact zk_ret trivial
end
section
theorem s_HM_isDigit (x0 : Int) (b_x0 : 0 ≤ x0 ∧ x0 ≤ 255) : zok (f_HM_isDigit x0) (fun o => ((o = 1 ∧ 48 ≤ x0 ∧ x0 ≤ 57) ∨ (o = 0 ∧ (x0 < 48 ∨ 57 < x0)))) := by
  unfold f_HM_isDigit
  refine zk_ifc (zci_lt (by omega) (by omega)) (fun hc => ?_) (fun hc => ?_)
  · exact zk_ret (by omega)
  · refine zk_ifc (zci_lt (by omega) (by omega)) (fun hc_2 => ?_) (fun hc_2 => ?_)
    · exact zk_ret (by omega)
    · exact zk_ret (by omega)
theorem s_HM_isSmall (x0 : Int) (b_x0 : 0 ≤ x0 ∧ x0 ≤ 255) : zok (f_HM_isSmall x0) (fun o => ((o = 1 ∧ 97 ≤ x0 ∧ x0 ≤ 122) ∨ (o = 0 ∧ (x0 < 97 ∨ 122 < x0)))) := by
  unfold f_HM_isSmall
  refine zk_ifc (zci_lt (by omega) (by omega)) (fun hc => ?_) (fun hc => ?_)
  · exact zk_ret (by omega)
  · refine zk_ifc (zci_lt (by omega) (by omega)) (fun hc_2 => ?_) (fun hc_2 => ?_)
    · exact zk_ret (by omega)
    · exact zk_ret (by omega)
theorem s_HM_next_243 (i_taped : Int) (i_tape : Nat → Int) (b_i_taped : 0 ≤ i_taped ∧ i_taped ≤ 400) (h_i_tape : zR i_tape 0 255) : ∀ (n : Nat) (i_from : Int) (i_to : Int) (i_sort : Int) (i_worth : Int), (0 ≤ i_from ∧ i_from ≤ 400) → (0 ≤ i_to ∧ i_to ≤ 400) → (0 ≤ i_sort ∧ i_sort ≤ 3) → (i_from ≤ i_to ∧ i_to ≤ i_taped) → ((i_sort = 0 ∧ i_from = i_taped) ∨ (i_sort ≠ 0 ∧ i_from < i_taped)) → (i_sort = 0 ∨ i_from < i_to ∨ (i_to = i_from ∧ i_sort = 2 ∧ 48 ≤ i_tape i_to.toNat ∧ i_tape i_to.toNat ≤ 57)) → (401 - i_to) < (n : Int) → zok (f_HM_next_243 i_taped i_tape n i_from i_to i_sort i_worth) (fun o => (o.1 = i_from) ∧ (o.2.2.1 = i_sort) ∧ (i_from ≤ o.2.1 ∧ o.2.1 ≤ i_taped) ∧ (i_sort = 0 ∨ i_from < o.2.1) ∧ (i_sort ≠ 0 ∨ i_to ≤ o.2.1)) := by
  intro n
  induction n with
  | zero => intro i_from i_to i_sort i_worth b_i_from b_i_to b_i_sort p_0 p_1 p_2 hm; exfalso; omega
  | succ n ih =>
    intro i_from i_to i_sort i_worth b_i_from b_i_to b_i_sort p_0 p_1 p_2 hm
    show zok (f_HM_next_243_b i_taped i_tape (f_HM_next_243 i_taped i_tape n) i_from i_to i_sort i_worth) _
    unfold f_HM_next_243_b
    refine zk_ifc (zci_ne (by omega) (by omega)) (fun hc => ?_) (fun hc => ?_)
    · refine zk_ret ?_
      try dsimp only
      exact ⟨by omega, by omega, by omega, by omega, by omega⟩
    · refine zk_ifc (zci_le (by omega) (by omega)) (fun hc_2 => ?_) (fun hc_2 => ?_)
      · refine zk_ret ?_
        try dsimp only
        exact ⟨by omega, by omega, by omega, by omega, by omega⟩
      · refine zk_gv (by omega) (by decide) (fun v1 h_v1 => ?_)
        have r_v1 := h_i_tape (i_to.toNat)
        refine zk_d1 (s_HM_isDigit _ (by omega)) (fun v2 hp => ?_)
        try dsimp only at hp
        have hpp0 := hp
        refine zk_ifc (zci_eqr (by omega)) (fun hc_3 => ?_) (fun hc_3 => ?_)
        · refine zk_ret ?_
          try dsimp only
          exact ⟨by omega, by omega, by omega, by omega, by omega⟩
        · refine zk_if (fun hc_4 => ?_) (fun hc_4 => ?_)
          · refine zk_n ?_
            refine zk_gv (by omega) (by decide) (fun v4 h_v4 => ?_)
            have r_v4 := h_i_tape (i_to.toNat)
            refine zk_nE (fun v5 h_v5 => ?_)
            rw [zwi (by omega)] at h_v5
            replace h_v5 := h_v5.symm
            subst h_v5
            refine zk_n ?_
            refine zk_n ?_
            unfold f_HM_next_319
            refine zk_n ?_
            refine zok_mono (ih _ _ _ _ (by omega) (by omega) (by omega) (by omega) (by omega) (by omega) (by omega)) (fun o ho => ?_)
            try dsimp only at ho
            obtain ⟨ho_0, ho_1, ho_2, ho_3, ho_4⟩ := ho
            exact ⟨by omega, by omega, by omega, by omega, by omega⟩
          · unfold f_HM_next_319
            refine zk_n ?_
            refine zok_mono (ih _ _ _ _ (by omega) (by omega) (by omega) (by omega) (by omega) (by omega) (by omega)) (fun o ho => ?_)
            try dsimp only at ho
            obtain ⟨ho_0, ho_1, ho_2, ho_3, ho_4⟩ := ho
            exact ⟨by omega, by omega, by omega, by omega, by omega⟩
theorem s_HM_next_149 (i_taped : Int) (i_tape : Nat → Int) (b_i_taped : 0 ≤ i_taped ∧ i_taped ≤ 400) (h_i_tape : zR i_tape 0 255) : ∀ (n : Nat) (i_from : Int) (i_to : Int) (i_sort : Int) (i_worth : Int), (0 ≤ i_from ∧ i_from ≤ 400) → (0 ≤ i_to ∧ i_to ≤ 400) → (0 ≤ i_sort ∧ i_sort ≤ 3) → (i_from ≤ i_to ∧ i_to ≤ i_taped) → ((i_sort = 0 ∧ i_from = i_taped) ∨ (i_sort ≠ 0 ∧ i_from < i_taped)) → (i_sort = 0 ∨ i_from < i_to ∨ (i_to = i_from ∧ ((i_sort = 2 ∧ 48 ≤ i_tape i_to.toNat ∧ i_tape i_to.toNat ≤ 57) ∨ (i_sort = 1 ∧ 97 ≤ i_tape i_to.toNat ∧ i_tape i_to.toNat ≤ 122)))) → (401 - i_to) < (n : Int) → zok (f_HM_next_149 i_taped i_tape n i_from i_to i_sort i_worth) (fun o => (o.1 = i_from) ∧ (o.2.2.1 = i_sort) ∧ (i_from ≤ o.2.1 ∧ o.2.1 ≤ i_taped) ∧ (i_sort = 0 ∨ i_from < o.2.1) ∧ (i_sort ≠ 0 ∨ i_to ≤ o.2.1)) := by
  intro n
  induction n with
  | zero => intro i_from i_to i_sort i_worth b_i_from b_i_to b_i_sort p_0 p_1 p_2 hm; exfalso; omega
  | succ n ih =>
    intro i_from i_to i_sort i_worth b_i_from b_i_to b_i_sort p_0 p_1 p_2 hm
    show zok (f_HM_next_149_b i_taped i_tape (f_HM_next_149 i_taped i_tape n) i_from i_to i_sort i_worth) _
    unfold f_HM_next_149_b
    refine zk_ifc (zci_ne (by omega) (by omega)) (fun hc => ?_) (fun hc => ?_)
    · refine zok_mono (s_HM_next_243 _ _ (by omega) h_i_tape zfu _ _ _ _ (by omega) (by omega) (by omega) (by omega) (by omega) (by omega) (by unfold zfu; omega)) (fun o ho => ?_)
      try dsimp only at ho
      obtain ⟨ho_0, ho_1, ho_2, ho_3, ho_4⟩ := ho
      exact ⟨by omega, by omega, by omega, by omega, by omega⟩
    · refine zk_ifc (zci_le (by omega) (by omega)) (fun hc_2 => ?_) (fun hc_2 => ?_)
      · refine zok_mono (s_HM_next_243 _ _ (by omega) h_i_tape zfu _ _ _ _ (by omega) (by omega) (by omega) (by omega) (by omega) (by omega) (by unfold zfu; omega)) (fun o ho => ?_)
        try dsimp only at ho
        obtain ⟨ho_0, ho_1, ho_2, ho_3, ho_4⟩ := ho
        exact ⟨by omega, by omega, by omega, by omega, by omega⟩
      · refine zk_gv (by omega) (by decide) (fun v1 h_v1 => ?_)
        have r_v1 := h_i_tape (i_to.toNat)
        refine zk_d1 (s_HM_isSmall _ (by omega)) (fun v2 hp => ?_)
        try dsimp only at hp
        have hpp0 := hp
        refine zk_ifc (zci_eqr (by omega)) (fun hc_3 => ?_) (fun hc_3 => ?_)
        · refine zok_mono (s_HM_next_243 _ _ (by omega) h_i_tape zfu _ _ _ _ (by omega) (by omega) (by omega) (by omega) (by omega) (by omega) (by unfold zfu; omega)) (fun o ho => ?_)
          try dsimp only at ho
          obtain ⟨ho_0, ho_1, ho_2, ho_3, ho_4⟩ := ho
          exact ⟨by omega, by omega, by omega, by omega, by omega⟩
        · refine zk_n ?_
          refine zk_ifc (zci_le (by omega) (by omega)) (fun hc_4 => ?_) (fun hc_4 => ?_)
          · unfold f_HM_next_227
            refine zk_n ?_
            refine zok_mono (ih _ _ _ _ (by omega) (by omega) (by omega) (by omega) (by omega) (by omega) (by omega)) (fun o ho => ?_)
            try dsimp only at ho
            obtain ⟨ho_0, ho_1, ho_2, ho_3, ho_4⟩ := ho
            exact ⟨by omega, by omega, by omega, by omega, by omega⟩
          · refine zk_n ?_
            refine zk_gv (by omega) (by decide) (fun v5 h_v5 => ?_)
            have r_v5 := h_i_tape (i_to.toNat)
            refine zk_nE (fun v6 h_v6 => ?_)
            rw [zwi (by omega)] at h_v6
            replace h_v6 := h_v6.symm
            subst h_v6
            refine zk_n ?_
            refine zk_n ?_
            unfold f_HM_next_227
            refine zk_n ?_
            refine zok_mono (ih _ _ _ _ (by omega) (by omega) (by omega) (by omega) (by omega) (by omega) (by omega)) (fun o ho => ?_)
            try dsimp only at ho
            obtain ⟨ho_0, ho_1, ho_2, ho_3, ho_4⟩ := ho
            exact ⟨by omega, by omega, by omega, by omega, by omega⟩
theorem s_HM_next_8 (i_taped : Int) (i_tape : Nat → Int) (b_i_taped : 0 ≤ i_taped ∧ i_taped ≤ 400) (h_i_tape : zR i_tape 0 255) : ∀ (n : Nat) (i_from : Int) (i_to : Int) (i_sort : Int) (i_worth : Int), (0 ≤ i_from ∧ i_from ≤ 400) → (i_from ≤ i_taped) → (401 - i_from) < (n : Int) → zok (f_HM_next_8 i_taped i_tape n i_from i_to i_sort i_worth) (fun o => (i_from ≤ o.1) ∧ (0 ≤ o.1 ∧ o.1 ≤ o.2.1 ∧ o.2.1 ≤ i_taped) ∧ (0 ≤ o.2.2.1 ∧ o.2.2.1 ≤ 3) ∧ ((o.2.2.1 = 0 ∧ o.1 = i_taped) ∨ (o.2.2.1 ≠ 0 ∧ o.1 < o.2.1))) := by
  intro n
  induction n with
  | zero => intro i_from i_to i_sort i_worth b_i_from p_0 hm; exfalso; omega
  | succ n ih =>
    intro i_from i_to i_sort i_worth b_i_from p_0 hm
    show zok (f_HM_next_8_b i_taped i_tape (f_HM_next_8 i_taped i_tape n) i_from i_to i_sort i_worth) _
    unfold f_HM_next_8_b
    refine zk_ifc (zci_le (by omega) (by omega)) (fun hc => ?_) (fun hc => ?_)
    · unfold f_HM_next_46
      refine zk_ifc (zci_ne (by omega) (by omega)) (fun hc_2 => ?_) (fun hc_2 => ?_)
      · refine zk_gv (by omega) (by decide) (fun v1 h_v1 => ?_)
        have r_v1 := h_i_tape (i_from.toNat)
        refine zk_d1 (s_HM_isSmall _ (by omega)) (fun v2 hp => ?_)
        try dsimp only at hp
        have hpp0 := hp
        refine zk_ifc (zci_eqr (by omega)) (fun hc_3 => ?_) (fun hc_3 => ?_)
        · refine zk_gv (by omega) (by decide) (fun v3 h_v3 => ?_)
          have r_v3 := h_i_tape (i_from.toNat)
          refine zk_d1 (s_HM_isDigit _ (by omega)) (fun v4 hp_2 => ?_)
          try dsimp only at hp_2
          have hp_2p0 := hp_2
          refine zk_ifc (zci_eqr (by omega)) (fun hc_4 => ?_) (fun hc_4 => ?_)
          · unfold f_HM_next_114
            refine zk_ifc (zci_ne (by omega) (by omega)) (fun hc_5 => ?_) (fun hc_5 => ?_)
            · refine zok_mono (s_HM_next_149 _ _ (by omega) h_i_tape zfu _ _ _ _ (by omega) (by omega) (by omega) (by omega) (by omega) (by omega) (by unfold zfu; omega)) (fun o ho => ?_)
              try dsimp only at ho
              obtain ⟨ho_0, ho_1, ho_2, ho_3, ho_4⟩ := ho
              exact ⟨by omega, by omega, by omega, by omega⟩
            · refine zk_gv (by omega) (by decide) (fun v1_2 h_v1_2 => ?_)
              have r_v1_2 := h_i_tape (i_from.toNat)
              refine zk_nE (fun v2_2 h_v2_2 => ?_)
              rw [zwi (by omega)] at h_v2_2
              replace h_v2_2 := h_v2_2.symm
              subst h_v2_2
              refine zk_n ?_
              refine zok_mono (s_HM_next_149 _ _ (by omega) h_i_tape zfu _ _ _ _ (by omega) (by omega) (by omega) (by omega) (by omega) (by omega) (by unfold zfu; omega)) (fun o ho => ?_)
              try dsimp only at ho
              obtain ⟨ho_0, ho_1, ho_2, ho_3, ho_4⟩ := ho
              exact ⟨by omega, by omega, by omega, by omega⟩
          · unfold f_HM_next_114
            refine zk_ifc (zci_ne (by omega) (by omega)) (fun hc_6 => ?_) (fun hc_6 => ?_)
            · refine zok_mono (s_HM_next_149 _ _ (by omega) h_i_tape zfu _ _ _ _ (by omega) (by omega) (by omega) (by omega) (by omega) (by omega) (by unfold zfu; omega)) (fun o ho => ?_)
              try dsimp only at ho
              obtain ⟨ho_0, ho_1, ho_2, ho_3, ho_4⟩ := ho
              exact ⟨by omega, by omega, by omega, by omega⟩
            · refine zk_gv (by omega) (by decide) (fun v1_3 h_v1_3 => ?_)
              have r_v1_3 := h_i_tape (i_from.toNat)
              refine zk_nE (fun v2_3 h_v2_3 => ?_)
              rw [zwi (by omega)] at h_v2_3
              replace h_v2_3 := h_v2_3.symm
              subst h_v2_3
              refine zk_n ?_
              refine zok_mono (s_HM_next_149 _ _ (by omega) h_i_tape zfu _ _ _ _ (by omega) (by omega) (by omega) (by omega) (by omega) (by omega) (by unfold zfu; omega)) (fun o ho => ?_)
              try dsimp only at ho
              obtain ⟨ho_0, ho_1, ho_2, ho_3, ho_4⟩ := ho
              exact ⟨by omega, by omega, by omega, by omega⟩
        · unfold f_HM_next_114
          refine zk_ifc (zci_ne (by omega) (by omega)) (fun hc_7 => ?_) (fun hc_7 => ?_)
          · refine zok_mono (s_HM_next_149 _ _ (by omega) h_i_tape zfu _ _ _ _ (by omega) (by omega) (by omega) (by omega) (by omega) (by omega) (by unfold zfu; omega)) (fun o ho => ?_)
            try dsimp only at ho
            obtain ⟨ho_0, ho_1, ho_2, ho_3, ho_4⟩ := ho
            exact ⟨by omega, by omega, by omega, by omega⟩
          · refine zk_gv (by omega) (by decide) (fun v1_4 h_v1_4 => ?_)
            have r_v1_4 := h_i_tape (i_from.toNat)
            refine zk_nE (fun v2_4 h_v2_4 => ?_)
            rw [zwi (by omega)] at h_v2_4
            replace h_v2_4 := h_v2_4.symm
            subst h_v2_4
            refine zk_n ?_
            refine zok_mono (s_HM_next_149 _ _ (by omega) h_i_tape zfu _ _ _ _ (by omega) (by omega) (by omega) (by omega) (by omega) (by omega) (by unfold zfu; omega)) (fun o ho => ?_)
            try dsimp only at ho
            obtain ⟨ho_0, ho_1, ho_2, ho_3, ho_4⟩ := ho
            exact ⟨by omega, by omega, by omega, by omega⟩
      · unfold f_HM_next_114
        refine zk_ifc (zci_ne (by omega) (by omega)) (fun hc_8 => ?_) (fun hc_8 => ?_)
        · refine zok_mono (s_HM_next_149 _ _ (by omega) h_i_tape zfu _ _ _ _ (by omega) (by omega) (by omega) (by omega) (by omega) (by omega) (by unfold zfu; omega)) (fun o ho => ?_)
          try dsimp only at ho
          obtain ⟨ho_0, ho_1, ho_2, ho_3, ho_4⟩ := ho
          exact ⟨by omega, by omega, by omega, by omega⟩
        · refine zk_gv (by omega) (by decide) (fun v1_5 h_v1_5 => ?_)
          have r_v1_5 := h_i_tape (i_from.toNat)
          refine zk_nE (fun v2_5 h_v2_5 => ?_)
          rw [zwi (by omega)] at h_v2_5
          replace h_v2_5 := h_v2_5.symm
          subst h_v2_5
          refine zk_n ?_
          refine zok_mono (s_HM_next_149 _ _ (by omega) h_i_tape zfu _ _ _ _ (by omega) (by omega) (by omega) (by omega) (by omega) (by omega) (by unfold zfu; omega)) (fun o ho => ?_)
          try dsimp only at ho
          obtain ⟨ho_0, ho_1, ho_2, ho_3, ho_4⟩ := ho
          exact ⟨by omega, by omega, by omega, by omega⟩
    · refine zk_gv (by omega) (by decide) (fun v1_6 h_v1_6 => ?_)
      have r_v1_6 := h_i_tape (i_from.toNat)
      refine zk_ifc (zci_ne (by omega) (by omega)) (fun hc_9 => ?_) (fun hc_9 => ?_)
      · unfold f_HM_next_46
        refine zk_ifc (zci_ne (by omega) (by omega)) (fun hc_10 => ?_) (fun hc_10 => ?_)
        · refine zk_gv (by omega) (by decide) (fun v1_7 h_v1_7 => ?_)
          have r_v1_7 := h_i_tape (i_from.toNat)
          refine zk_d1 (s_HM_isSmall _ (by omega)) (fun v2_6 hp_3 => ?_)
          try dsimp only at hp_3
          have hp_3p0 := hp_3
          refine zk_ifc (zci_eqr (by omega)) (fun hc_11 => ?_) (fun hc_11 => ?_)
          · refine zk_gv (by omega) (by decide) (fun v3_6 h_v3_6 => ?_)
            have r_v3_6 := h_i_tape (i_from.toNat)
            refine zk_d1 (s_HM_isDigit _ (by omega)) (fun v4_2 hp_4 => ?_)
            try dsimp only at hp_4
            have hp_4p0 := hp_4
            refine zk_ifc (zci_eqr (by omega)) (fun hc_12 => ?_) (fun hc_12 => ?_)
            · unfold f_HM_next_114
              refine zk_ifc (zci_ne (by omega) (by omega)) (fun hc_13 => ?_) (fun hc_13 => ?_)
              · refine zok_mono (s_HM_next_149 _ _ (by omega) h_i_tape zfu _ _ _ _ (by omega) (by omega) (by omega) (by omega) (by omega) (by omega) (by unfold zfu; omega)) (fun o ho => ?_)
                try dsimp only at ho
                obtain ⟨ho_0, ho_1, ho_2, ho_3, ho_4⟩ := ho
                exact ⟨by omega, by omega, by omega, by omega⟩
              · refine zk_gv (by omega) (by decide) (fun v1_8 h_v1_8 => ?_)
                have r_v1_8 := h_i_tape (i_from.toNat)
                refine zk_nE (fun v2_7 h_v2_7 => ?_)
                rw [zwi (by omega)] at h_v2_7
                replace h_v2_7 := h_v2_7.symm
                subst h_v2_7
                refine zk_n ?_
                refine zok_mono (s_HM_next_149 _ _ (by omega) h_i_tape zfu _ _ _ _ (by omega) (by omega) (by omega) (by omega) (by omega) (by omega) (by unfold zfu; omega)) (fun o ho => ?_)
                try dsimp only at ho
                obtain ⟨ho_0, ho_1, ho_2, ho_3, ho_4⟩ := ho
                exact ⟨by omega, by omega, by omega, by omega⟩
            · unfold f_HM_next_114
              refine zk_ifc (zci_ne (by omega) (by omega)) (fun hc_14 => ?_) (fun hc_14 => ?_)
              · refine zok_mono (s_HM_next_149 _ _ (by omega) h_i_tape zfu _ _ _ _ (by omega) (by omega) (by omega) (by omega) (by omega) (by omega) (by unfold zfu; omega)) (fun o ho => ?_)
                try dsimp only at ho
                obtain ⟨ho_0, ho_1, ho_2, ho_3, ho_4⟩ := ho
                exact ⟨by omega, by omega, by omega, by omega⟩
              · refine zk_gv (by omega) (by decide) (fun v1_9 h_v1_9 => ?_)
                have r_v1_9 := h_i_tape (i_from.toNat)
                refine zk_nE (fun v2_8 h_v2_8 => ?_)
                rw [zwi (by omega)] at h_v2_8
                replace h_v2_8 := h_v2_8.symm
                subst h_v2_8
                refine zk_n ?_
                refine zok_mono (s_HM_next_149 _ _ (by omega) h_i_tape zfu _ _ _ _ (by omega) (by omega) (by omega) (by omega) (by omega) (by omega) (by unfold zfu; omega)) (fun o ho => ?_)
                try dsimp only at ho
                obtain ⟨ho_0, ho_1, ho_2, ho_3, ho_4⟩ := ho
                exact ⟨by omega, by omega, by omega, by omega⟩
          · unfold f_HM_next_114
            refine zk_ifc (zci_ne (by omega) (by omega)) (fun hc_15 => ?_) (fun hc_15 => ?_)
            · refine zok_mono (s_HM_next_149 _ _ (by omega) h_i_tape zfu _ _ _ _ (by omega) (by omega) (by omega) (by omega) (by omega) (by omega) (by unfold zfu; omega)) (fun o ho => ?_)
              try dsimp only at ho
              obtain ⟨ho_0, ho_1, ho_2, ho_3, ho_4⟩ := ho
              exact ⟨by omega, by omega, by omega, by omega⟩
            · refine zk_gv (by omega) (by decide) (fun v1_10 h_v1_10 => ?_)
              have r_v1_10 := h_i_tape (i_from.toNat)
              refine zk_nE (fun v2_9 h_v2_9 => ?_)
              rw [zwi (by omega)] at h_v2_9
              replace h_v2_9 := h_v2_9.symm
              subst h_v2_9
              refine zk_n ?_
              refine zok_mono (s_HM_next_149 _ _ (by omega) h_i_tape zfu _ _ _ _ (by omega) (by omega) (by omega) (by omega) (by omega) (by omega) (by unfold zfu; omega)) (fun o ho => ?_)
              try dsimp only at ho
              obtain ⟨ho_0, ho_1, ho_2, ho_3, ho_4⟩ := ho
              exact ⟨by omega, by omega, by omega, by omega⟩
        · unfold f_HM_next_114
          refine zk_ifc (zci_ne (by omega) (by omega)) (fun hc_16 => ?_) (fun hc_16 => ?_)
          · refine zok_mono (s_HM_next_149 _ _ (by omega) h_i_tape zfu _ _ _ _ (by omega) (by omega) (by omega) (by omega) (by omega) (by omega) (by unfold zfu; omega)) (fun o ho => ?_)
            try dsimp only at ho
            obtain ⟨ho_0, ho_1, ho_2, ho_3, ho_4⟩ := ho
            exact ⟨by omega, by omega, by omega, by omega⟩
          · refine zk_gv (by omega) (by decide) (fun v1_11 h_v1_11 => ?_)
            have r_v1_11 := h_i_tape (i_from.toNat)
            refine zk_nE (fun v2_10 h_v2_10 => ?_)
            rw [zwi (by omega)] at h_v2_10
            replace h_v2_10 := h_v2_10.symm
            subst h_v2_10
            refine zk_n ?_
            refine zok_mono (s_HM_next_149 _ _ (by omega) h_i_tape zfu _ _ _ _ (by omega) (by omega) (by omega) (by omega) (by omega) (by omega) (by unfold zfu; omega)) (fun o ho => ?_)
            try dsimp only at ho
            obtain ⟨ho_0, ho_1, ho_2, ho_3, ho_4⟩ := ho
            exact ⟨by omega, by omega, by omega, by omega⟩
      · refine zk_n ?_
        refine zok_mono (ih _ _ _ _ (by omega) (by omega) (by omega)) (fun o ho => ?_)
        try dsimp only at ho
        obtain ⟨ho_0, ho_1, ho_2, ho_3⟩ := ho
        exact ⟨by omega, by omega, by omega, by omega⟩
theorem s_HM_next (i_taped : Int) (i_tape : Nat → Int) (i_from : Int) (i_to : Int) (i_sort : Int) (i_worth : Int) (b_i_taped : 0 ≤ i_taped ∧ i_taped ≤ 400) (h_i_tape : zR i_tape 0 255) (b_i_to : 0 ≤ i_to ∧ i_to ≤ 400) (p_0 : i_to ≤ i_taped) : zok (f_HM_next i_taped i_tape i_from i_to i_sort i_worth) (fun o => (i_to ≤ o.1) ∧ (0 ≤ o.1 ∧ o.1 ≤ o.2.1 ∧ o.2.1 ≤ i_taped) ∧ (0 ≤ o.2.2.1 ∧ o.2.2.1 ≤ 3) ∧ ((o.2.2.1 = 0 ∧ o.1 = i_taped) ∨ (o.2.2.1 ≠ 0 ∧ o.1 < o.2.1))) := by
  unfold f_HM_next
  refine zok_mono (s_HM_next_8 _ _ (by omega) h_i_tape zfu _ _ _ _ (by omega) (by omega) (by unfold zfu; omega)) (fun o ho => ?_)
  try dsimp only at ho
  obtain ⟨ho_0, ho_1, ho_2, ho_3⟩ := ho
  exact ⟨by omega, by omega, by omega, by omega⟩
theorem s_HM_must (x1 : Int) (i_taped : Int) (i_tape : Nat → Int) (i_from : Int) (i_to : Int) (i_sort : Int) (i_worth : Int) (i_fault : Int) (i_bad : Int) (b_x1 : 0 ≤ x1 ∧ x1 ≤ 1) (b_i_taped : 0 ≤ i_taped ∧ i_taped ≤ 400) (h_i_tape : zR i_tape 0 255) (b_i_from : 0 ≤ i_from ∧ i_from ≤ 400) (b_i_to : 0 ≤ i_to ∧ i_to ≤ 400) (b_i_sort : 0 ≤ i_sort ∧ i_sort ≤ 3) (b_i_bad : 0 ≤ i_bad ∧ i_bad ≤ 1) (p_0 : i_from ≤ i_to ∧ i_to ≤ i_taped) (p_1 : (i_sort = 0 ∧ i_from = i_taped) ∨ (i_sort ≠ 0 ∧ i_from < i_to)) : zok (f_HM_must x1 i_taped i_tape i_from i_to i_sort i_worth i_fault i_bad) (fun o => (0 ≤ o.1 ∧ o.1 ≤ o.2.1 ∧ o.2.1 ≤ i_taped) ∧ (0 ≤ o.2.2.1 ∧ o.2.2.1 ≤ 3) ∧ ((o.2.2.1 = 0 ∧ o.1 = i_taped) ∨ (o.2.2.1 ≠ 0 ∧ o.1 < o.2.1)) ∧ (i_from ≤ o.1) ∧ ((o.2.2.2.2.2 = 0 ∧ i_bad = 0 ∧ x1 ≠ 0 ∧ i_to ≤ o.1) ∨ (o.2.2.2.2.2 = 1 ∧ o.1 = i_from ∧ o.2.1 = i_to ∧ o.2.2.1 = i_sort))) := by
  unfold f_HM_must
  refine zk_ifc (zci_ner (by omega)) (fun hc => ?_) (fun hc => ?_)
  · unfold f_HM_must_24
    refine zk_ifc (zci_ner (by omega)) (fun hc_2 => ?_) (fun hc_2 => ?_)
    · refine zk_ret ?_
      try dsimp only
      exact ⟨by omega, by omega, by omega, by omega, by omega⟩
    · refine zk_d4 (s_HM_next _ _ _ _ _ _ (by omega) h_i_tape (by omega) (by omega)) (fun v1 v2 v3 v4 hp => ?_)
      try dsimp only at hp
      obtain ⟨hpp0, hpp1, hpp2, hpp3⟩ := hp
      refine zk_ret ?_
      try dsimp only
      exact ⟨by omega, by omega, by omega, by omega, by omega⟩
  · refine zk_ifc (zci_ner (by omega)) (fun hc_3 => ?_) (fun hc_3 => ?_)
    · unfold f_HM_must_24
      refine zk_ifc (zci_ner (by omega)) (fun hc_4 => ?_) (fun hc_4 => ?_)
      · refine zk_ret ?_
        try dsimp only
        exact ⟨by omega, by omega, by omega, by omega, by omega⟩
      · refine zk_d4 (s_HM_next _ _ _ _ _ _ (by omega) h_i_tape (by omega) (by omega)) (fun v1_2 v2_2 v3_2 v4_2 hp_2 => ?_)
        try dsimp only at hp_2
        obtain ⟨hp_2p0, hp_2p1, hp_2p2, hp_2p3⟩ := hp_2
        refine zk_ret ?_
        try dsimp only
        exact ⟨by omega, by omega, by omega, by omega, by omega⟩
    · unfold f_HM_must_24
      refine zk_ifc (zci_ner (by omega)) (fun hc_5 => ?_) (fun hc_5 => ?_)
      · refine zk_ret ?_
        try dsimp only
        exact ⟨by omega, by omega, by omega, by omega, by omega⟩
      · refine zk_d4 (s_HM_next _ _ _ _ _ _ (by omega) h_i_tape (by omega) (by omega)) (fun v1_3 v2_3 v3_3 v4_3 hp_3 => ?_)
        try dsimp only at hp_3
        obtain ⟨hp_3p0, hp_3p1, hp_3p2, hp_3p3⟩ := hp_3
        refine zk_ret ?_
        try dsimp only
        exact ⟨by omega, by omega, by omega, by omega, by omega⟩
theorem s_HM_isSign (x1 : Int) (i_sort : Int) (i_worth : Int) (b_x1 : 0 ≤ x1 ∧ x1 ≤ 255) (b_i_sort : 0 ≤ i_sort ∧ i_sort ≤ 3) : zok (f_HM_isSign x1 i_sort i_worth) (fun o => ((o = 1 ∧ i_sort = 3) ∨ o = 0)) := by
  unfold f_HM_isSign
  refine zk_ifc (zci_ne (by omega) (by omega)) (fun hc => ?_) (fun hc => ?_)
  · exact zk_ret (by omega)
  · refine zk_nE (fun v1 h_v1 => ?_)
    rw [zwi (by omega)] at h_v1
    replace h_v1 := h_v1.symm
    subst h_v1
    refine zk_if (fun hc_2 => ?_) (fun hc_2 => ?_)
    · exact zk_ret (by omega)
    · exact zk_ret (by omega)
theorem s_HM_isWord (x1 : Int) (i_sort : Int) (i_worth : Int) (b_i_sort : 0 ≤ i_sort ∧ i_sort ≤ 3) : zok (f_HM_isWord x1 i_sort i_worth) (fun o => ((o = 1 ∧ i_sort = 1) ∨ o = 0)) := by
  unfold f_HM_isWord
  refine zk_ifc (zci_ne (by omega) (by omega)) (fun hc => ?_) (fun hc => ?_)
  · exact zk_ret (by omega)
  · refine zk_if (fun hc_2 => ?_) (fun hc_2 => ?_)
    · exact zk_ret (by omega)
    · exact zk_ret (by omega)
theorem s_HM_partAt_4 (i_sort : Int) (i_worth : Int) (i_words : Nat → Int) (b_i_sort : 0 ≤ i_sort ∧ i_sort ≤ 3) : ∀ (n : Nat) (x1 : Int) (x2 : Int), ((-1) ≤ x1 ∧ x1 ≤ 8) → (0 ≤ x2 ∧ x2 ≤ 8) → (x1 = -1 ∨ (1 ≤ x1 ∧ i_sort = 1)) → (9 - x2) < (n : Int) → zok (f_HM_partAt_4 i_sort i_worth i_words n x1 x2) (fun o => ((-1) ≤ o ∧ o ≤ 8) ∧ (o = -1 ∨ (1 ≤ o ∧ i_sort = 1))) := by
  intro n
  induction n with
  | zero => intro x1 x2 b_x1 b_x2 p_0 hm; exfalso; omega
  | succ n ih =>
    intro x1 x2 b_x1 b_x2 p_0 hm
    show zok (f_HM_partAt_4_b i_sort i_worth i_words (f_HM_partAt_4 i_sort i_worth i_words n) x1 x2) _
    unfold f_HM_partAt_4_b
    refine zk_ifc (zci_le (by omega) (by omega)) (fun hc => ?_) (fun hc => ?_)
    · exact zk_ret ⟨by omega, by omega⟩
    · refine zk_gv (by omega) (by decide) (fun v1 h_v1 => ?_)
      refine zk_d1 (s_HM_isWord _ _ _ (by omega)) (fun v2 hp => ?_)
      try dsimp only at hp
      have hpp0 := hp
      refine zk_ifc (zci_eqr (by omega)) (fun hc_2 => ?_) (fun hc_2 => ?_)
      · unfold f_HM_partAt_30
        refine zk_n ?_
        refine zok_mono (ih _ _ (by omega) (by omega) (by omega) (by omega)) (fun o ho => ?_)
        try dsimp only at ho
        obtain ⟨ho_0, ho_1⟩ := ho
        exact ⟨by omega, by omega⟩
      · refine zk_n ?_
        unfold f_HM_partAt_30
        refine zk_n ?_
        refine zok_mono (ih _ _ (by omega) (by omega) (by omega) (by omega)) (fun o ho => ?_)
        try dsimp only at ho
        obtain ⟨ho_0, ho_1⟩ := ho
        exact ⟨by omega, by omega⟩
theorem s_HM_partAt (i_sort : Int) (i_worth : Int) (i_words : Nat → Int) (b_i_sort : 0 ≤ i_sort ∧ i_sort ≤ 3) : zok (f_HM_partAt i_sort i_worth i_words) (fun o => ((-1) ≤ o ∧ o ≤ 8) ∧ (o = -1 ∨ (1 ≤ o ∧ i_sort = 1))) := by
  unfold f_HM_partAt
  refine zok_mono (s_HM_partAt_4 _ _ _ (by omega) zfu _ _ (by omega) (by omega) (by omega) (by unfold zfu; omega)) (fun o ho => ?_)
  try dsimp only at ho
  obtain ⟨ho_0, ho_1⟩ := ho
  exact ⟨by omega, by omega⟩
theorem s_HM_emit (x1 : Int) (x2 : Int) (i_nCode : Int) (i_nOp : Nat → Int) (i_nArg : Nat → Int) (b_i_nCode : 0 ≤ i_nCode ∧ i_nCode ≤ 399) : zok (f_HM_emit x1 x2 i_nCode i_nOp i_nArg) (fun o => (o.1 = i_nCode + 1) ∧ (o.2.1 = zu i_nOp i_nCode.toNat x1) ∧ (o.2.2 = zu i_nArg i_nCode.toNat x2)) := by
  unfold f_HM_emit
  refine zk_sv (by omega) (by decide) (fun a1 h_a1 => ?_)
  refine zk_sv (by omega) (by decide) (fun a2 h_a2 => ?_)
  refine zk_n ?_
  refine zk_ret ?_
  try dsimp only
  exact ⟨by omega, by exact h_a1, by exact h_a2⟩
theorem s_HM_push (x1 : Int) (x2 : Int) (i_piled : Int) (i_pile : Nat → Int) (i_pileAt : Nat → Int) (b_i_piled : 0 ≤ i_piled ∧ i_piled ≤ 399) : zok (f_HM_push x1 x2 i_piled i_pile i_pileAt) (fun o => (o.1 = i_piled + 1) ∧ (o.2.1 = zu i_pile i_piled.toNat x1) ∧ (o.2.2 = zu i_pileAt i_piled.toNat x2)) := by
  unfold f_HM_push
  refine zk_sv (by omega) (by decide) (fun a1 h_a1 => ?_)
  refine zk_sv (by omega) (by decide) (fun a2 h_a2 => ?_)
  refine zk_n ?_
  refine zk_ret ?_
  try dsimp only
  exact ⟨by omega, by exact h_a1, by exact h_a2⟩
theorem s_HM_binds (x0 : Int) (b_x0 : 0 ≤ x0 ∧ x0 ≤ 31) : zok (f_HM_binds x0) (fun o => ((30 ≤ x0 ∧ o = 0) ∨ (x0 = 29 ∧ o = 1) ∨ (x0 = 28 ∧ o = 2) ∨ (x0 = 27 ∧ o = 3) ∨ (24 ≤ x0 ∧ x0 ≤ 26 ∧ o = 4) ∨ (22 ≤ x0 ∧ x0 ≤ 23 ∧ o = 6) ∨ (x0 < 22 ∧ o = 5))) := by
  unfold f_HM_binds
  refine zk_ifc (zci_lt (by omega) (by omega)) (fun hc => ?_) (fun hc => ?_)
  · refine zk_ifc (zci_ne (by omega) (by omega)) (fun hc_2 => ?_) (fun hc_2 => ?_)
    · refine zk_ifc (zci_ne (by omega) (by omega)) (fun hc_3 => ?_) (fun hc_3 => ?_)
      · refine zk_ifc (zci_ne (by omega) (by omega)) (fun hc_4 => ?_) (fun hc_4 => ?_)
        · refine zk_ifc (zci_lt (by omega) (by omega)) (fun hc_5 => ?_) (fun hc_5 => ?_)
          · refine zk_ifc (zci_lt (by omega) (by omega)) (fun hc_6 => ?_) (fun hc_6 => ?_)
            · exact zk_ret (by omega)
            · exact zk_ret (by omega)
          · exact zk_ret (by omega)
        · exact zk_ret (by omega)
      · exact zk_ret (by omega)
    · exact zk_ret (by omega)
  · exact zk_ret (by omega)
end
section
/-! OUR OWN: the reference reads a law: what it has written is well made -/
noncomputable def zB (p : Nat → Int) : Nat → Nat
  | 0 => 0
  | n + 1 => zB p n + (if 20 ≤ p n ∧ p n ≤ 26 then 1 else 0)
noncomputable def zN (p : Nat → Int) : Nat → Nat
  | 0 => 0
  | n + 1 => zN p n + (if 20 ≤ p n ∧ p n ≤ 27 then 1 else 0)
theorem zB_ge {p : Nat → Int} {i n : Nat} {v : Int} (h : n ≤ i) : zB (zu p i v) n = zB p n := by
  induction n with
  | zero => rfl
  | succ n ih => show zB (zu p i v) n + _ = zB p n + _; rw [ih (by omega), zu_ne _ _ (by omega)]
theorem zN_ge {p : Nat → Int} {i n : Nat} {v : Int} (h : n ≤ i) : zN (zu p i v) n = zN p n := by
  induction n with
  | zero => rfl
  | succ n ih => show zN (zu p i v) n + _ = zN p n + _; rw [ih (by omega), zu_ne _ _ (by omega)]
theorem zB_s (p : Nat → Int) (n : Nat) : (20 ≤ p n ∧ p n ≤ 26 ∧ zB p (n + 1) = zB p n + 1) ∨ (¬ (20 ≤ p n ∧ p n ≤ 26) ∧ zB p (n + 1) = zB p n) := by
  by_cases h : 20 ≤ p n ∧ p n ≤ 26
  · exact Or.inl ⟨h.1, h.2, by show zB p n + _ = _; rw [if_pos h]⟩
  · exact Or.inr ⟨h, by show zB p n + _ = _; rw [if_neg h]; rfl⟩
theorem zN_s (p : Nat → Int) (n : Nat) : (20 ≤ p n ∧ p n ≤ 27 ∧ zN p (n + 1) = zN p n + 1) ∨ (¬ (20 ≤ p n ∧ p n ≤ 27) ∧ zN p (n + 1) = zN p n) := by
  by_cases h : 20 ≤ p n ∧ p n ≤ 27
  · exact Or.inl ⟨h.1, h.2, by show zN p n + _ = _; rw [if_pos h]⟩
  · exact Or.inr ⟨h, by show zN p n + _ = _; rw [if_neg h]; rfl⟩
/-- an instruction that stands; where its way is not known yet, it waits on the pile -/
noncomputable def zps (op ar : Nat → Int) (D : Nat → Nat) (nC m : Nat) (pl pa : Nat → Int) (k : Nat) : Prop :=
  (0 ≤ op k ∧ op k ≤ 8 ∧ D (k + 1) = D k + 1) ∨
  (20 ≤ op k ∧ op k ≤ 26 ∧ D (k + 1) + 1 = D k ∧ 2 ≤ D k) ∨
  (op k = 27 ∧ D (k + 1) = D k ∧ 1 ≤ D k) ∨
  ((op k = 28 ∨ op k = 29) ∧ D (k + 1) + 1 = D k ∧ ((∃ a : Nat, ar k = (a : Int) ∧ k < a ∧ a ≤ nC ∧ D a = D k) ∨ (∃ i, i < m ∧ (pl i = 28 ∨ pl i = 29) ∧ pa i = (k : Int))))
noncomputable def PC (s : Nat) (op0 ar0 : Nat → Int) (D : Nat → Nat) (nC m : Nat) (op ar pl pa : Nat → Int) : Prop :=
  s ≤ nC ∧ D s = 0 ∧ (∀ k, k < s → op k = op0 k ∧ ar k = ar0 k) ∧
  (∀ i, i < m → (pl i = 28 ∨ pl i = 29) → ∃ a : Nat, pa i = (a : Int) ∧ s ≤ a ∧ a < nC ∧ D a = zB pl i + 1) ∧
  (∀ k, s ≤ k → k < nC → zps op ar D nC m pl pa k)
noncomputable def PS (pl : Nat → Int) (m : Nat) : Prop := ∀ i j, i < j → j < m → pl i = 31 → (20 ≤ pl j ∧ pl j ≤ 23) ∨ pl j = 31
noncomputable def NS (pl : Nat → Int) (m : Nat) : Prop := ∀ i, i < m → pl i ≠ 31
noncomputable def PG (s : Nat) (op0 ar0 : Nat → Int) (nC m : Nat) (op ar pl pa : Nat → Int) (c : Nat) : Prop :=
  ∃ D : Nat → Nat, PC s op0 ar0 D nC m op ar pl pa ∧ D nC = zB pl m + c
/-- one more depth behind the last instruction -/
noncomputable def zDu (D : Nat → Nat) (i d : Nat) : Nat → Nat := fun j => if j = i then d else D j
theorem zDu_eq (D : Nat → Nat) (i d : Nat) : zDu D i d i = d := by unfold zDu; rw [if_pos rfl]
theorem zDu_ne (D : Nat → Nat) {i j : Nat} (d : Nat) (h : j ≠ i) : zDu D i d j = D j := by unfold zDu; rw [if_neg h]
theorem PG_pop {s : Nat} {op0 ar0 : Nat → Int} {nC m : Nat} {op ar pl pa : Nat → Int} {c : Nat} (h : PG s op0 ar0 nC (m + 1) op ar pl pa c) (hb : 30 ≤ pl m) : PG s op0 ar0 nC m op ar pl pa c := by
  obtain ⟨D, ⟨h1, h2, h3, h4, h5⟩, h6⟩ := h
  refine ⟨D, ⟨h1, h2, h3, fun i hi hp => h4 i (by omega) hp, fun k k1 k2 => ?_⟩, ?_⟩
  · rcases h5 k k1 k2 with q | q | q | ⟨q1, q2, q3⟩
    · exact Or.inl q
    · exact Or.inr (Or.inl q)
    · exact Or.inr (Or.inr (Or.inl q))
    · refine Or.inr (Or.inr (Or.inr ⟨q1, q2, ?_⟩))
      rcases q3 with q | ⟨i, i1, i2, i3⟩
      · exact Or.inl q
      · refine Or.inr ⟨i, ?_, i2, i3⟩
        by_cases e : i = m
        · subst e; exfalso; omega
        · omega
  · have := zB_s pl m
    omega
theorem PG_andor {s : Nat} {op0 ar0 : Nat → Int} {nC m : Nat} {op ar pl pa : Nat → Int} (h : PG s op0 ar0 nC (m + 1) op ar pl pa 1) (hb : pl m = 28 ∨ pl m = 29) : PG s op0 ar0 nC m op (zu ar (pa m).toNat (nC : Int)) pl pa 1 := by
  obtain ⟨D, ⟨h1, h2, h3, h4, h5⟩, h6⟩ := h
  obtain ⟨a, a1, a2, a3, a4⟩ := h4 m (by omega) hb
  have ea : (pa m).toNat = a := by omega
  have zb := zB_s pl m
  rw [ea]
  refine ⟨D, ⟨h1, h2, fun k hk => ?_, fun i hi hp => h4 i (by omega) hp, fun k k1 k2 => ?_⟩, by omega⟩
  · rw [zu_ne _ _ (by omega)]; exact h3 k hk
  · rcases h5 k k1 k2 with q | q | q | ⟨q1, q2, q3⟩
    · exact Or.inl q
    · exact Or.inr (Or.inl q)
    · exact Or.inr (Or.inr (Or.inl q))
    · refine Or.inr (Or.inr (Or.inr ⟨q1, q2, ?_⟩))
      by_cases e : k = a
      · subst e
        exact Or.inl ⟨nC, by rw [zu_eq], k2, Nat.le_refl _, by clear q3; omega⟩
      · rcases q3 with ⟨b, b1, b2⟩ | ⟨i, i1, i2, i3⟩
        · exact Or.inl ⟨b, by rw [zu_ne _ _ e]; exact b1, b2⟩
        · refine Or.inr ⟨i, ?_, i2, i3⟩
          by_cases f : i = m
          · subst f; exfalso; omega
          · omega
/-- what stood stands, when an instruction comes behind it -/
theorem PC_more {s : Nat} {op0 ar0 : Nat → Int} {D : Nat → Nat} {nC m : Nat} {op ar pl pa : Nat → Int} {v w : Int} {d : Nat} (h : PC s op0 ar0 D nC m op ar pl pa) (hn : zps (zu op nC v) (zu ar nC w) (zDu D (nC + 1) d) (nC + 1) m pl pa nC) : PC s op0 ar0 (zDu D (nC + 1) d) (nC + 1) m (zu op nC v) (zu ar nC w) pl pa := by
  obtain ⟨h1, h2, h3, h4, h5⟩ := h
  refine ⟨by omega, by rw [zDu_ne _ _ (by omega)]; exact h2, fun k hk => ?_, fun i hi hp => ?_, fun k k1 k2 => ?_⟩
  · rw [zu_ne _ _ (by omega), zu_ne _ _ (by omega)]; exact h3 k hk
  · obtain ⟨a, a1, a2, a3, a4⟩ := h4 i hi hp
    exact ⟨a, a1, a2, by omega, by rw [zDu_ne _ _ (by omega)]; exact a4⟩
  · by_cases e : k = nC
    · subst e; exact hn
    · have hz := h5 k k1 (by omega)
      unfold zps at hz ⊢
      rw [zu_ne _ _ e, zu_ne _ _ e, zDu_ne D d (show k + 1 ≠ nC + 1 by omega), zDu_ne D d (show k ≠ nC + 1 by omega)]
      rcases hz with q | q | q | ⟨q1, q2, q3⟩
      · exact Or.inl q
      · exact Or.inr (Or.inl q)
      · exact Or.inr (Or.inr (Or.inl q))
      · refine Or.inr (Or.inr (Or.inr ⟨q1, q2, ?_⟩))
        rcases q3 with ⟨b, b1, b2, b3, b4⟩ | q
        · exact Or.inl ⟨b, b1, b2, by omega, by rw [zDu_ne _ _ (by omega)]; exact b4⟩
        · exact Or.inr q
theorem PC_sub {s : Nat} {op0 ar0 : Nat → Int} {D : Nat → Nat} {nC m : Nat} {op ar pl pa : Nat → Int} (h : PC s op0 ar0 D nC (m + 1) op ar pl pa) (hb : pl m ≠ 28 ∧ pl m ≠ 29) : PC s op0 ar0 D nC m op ar pl pa := by
  obtain ⟨h1, h2, h3, h4, h5⟩ := h
  refine ⟨h1, h2, h3, fun i hi hp => h4 i (by omega) hp, fun k k1 k2 => ?_⟩
  rcases h5 k k1 k2 with q | q | q | ⟨q1, q2, q3⟩
  · exact Or.inl q
  · exact Or.inr (Or.inl q)
  · exact Or.inr (Or.inr (Or.inl q))
  · refine Or.inr (Or.inr (Or.inr ⟨q1, q2, ?_⟩))
    rcases q3 with q | ⟨i, i1, i2, i3⟩
    · exact Or.inl q
    · refine Or.inr ⟨i, ?_, i2, i3⟩
      by_cases e : i = m
      · subst e; exfalso; omega
      · omega
theorem PG_emitop {s : Nat} {op0 ar0 : Nat → Int} {nC m : Nat} {op ar pl pa : Nat → Int} {w : Int} (h : PG s op0 ar0 nC (m + 1) op ar pl pa 1) (hb : 20 ≤ pl m ∧ pl m ≤ 27) : PG s op0 ar0 (nC + 1) m (zu op nC (pl m)) (zu ar nC w) pl pa 1 := by
  obtain ⟨D, hc, h6⟩ := h
  have zb := zB_s pl m
  refine ⟨zDu D (nC + 1) (zB pl m + 1), PC_more (PC_sub hc (by omega)) ?_, by rw [zDu_eq]⟩
  unfold zps
  rw [zu_eq, zDu_eq, zDu_ne D _ (show nC ≠ nC + 1 by omega)]
  by_cases e : pl m = 27
  · exact Or.inr (Or.inr (Or.inl ⟨e, by omega, by omega⟩))
  · exact Or.inr (Or.inl ⟨hb.1, by omega, by omega, by omega⟩)
theorem PG_leaf {s : Nat} {op0 ar0 : Nat → Int} {nC m : Nat} {op ar pl pa : Nat → Int} {v w : Int} (h : PG s op0 ar0 nC m op ar pl pa 0) (hv : 0 ≤ v ∧ v ≤ 8) : PG s op0 ar0 (nC + 1) m (zu op nC v) (zu ar nC w) pl pa 1 := by
  obtain ⟨D, hc, h6⟩ := h
  refine ⟨zDu D (nC + 1) (zB pl m + 1), PC_more hc ?_, by rw [zDu_eq]⟩
  unfold zps
  rw [zu_eq, zDu_eq, zDu_ne D _ (show nC ≠ nC + 1 by omega)]
  exact Or.inl ⟨hv.1, hv.2, by omega⟩
theorem PC_push {s : Nat} {op0 ar0 : Nat → Int} {D : Nat → Nat} {nC m : Nat} {op ar pl pa : Nat → Int} {v w : Int} (h : PC s op0 ar0 D nC m op ar pl pa) (hv : v ≠ 28 ∧ v ≠ 29) : PC s op0 ar0 D nC (m + 1) op ar (zu pl m v) (zu pa m w) := by
  obtain ⟨h1, h2, h3, h4, h5⟩ := h
  refine ⟨h1, h2, h3, fun i hi hp => ?_, fun k k1 k2 => ?_⟩
  · by_cases e : i = m
    · subst e; rw [zu_eq] at hp; exfalso; omega
    · rw [zu_ne _ _ e] at hp
      obtain ⟨a, a1, a2, a3, a4⟩ := h4 i (by omega) hp
      exact ⟨a, by rw [zu_ne _ _ e]; exact a1, a2, a3, by rw [zB_ge (by omega)]; exact a4⟩
  · rcases h5 k k1 k2 with q | q | q | ⟨q1, q2, q3⟩
    · exact Or.inl q
    · exact Or.inr (Or.inl q)
    · exact Or.inr (Or.inr (Or.inl q))
    · refine Or.inr (Or.inr (Or.inr ⟨q1, q2, ?_⟩))
      rcases q3 with q | ⟨i, i1, i2, i3⟩
      · exact Or.inl q
      · exact Or.inr ⟨i, by omega, by rw [zu_ne _ _ (by omega)]; exact i2, by rw [zu_ne _ _ (by omega)]; exact i3⟩
theorem PG_push {s : Nat} {op0 ar0 : Nat → Int} {nC m : Nat} {op ar pl pa : Nat → Int} {v w : Int} {c d : Nat} (h : PG s op0 ar0 nC m op ar pl pa c) (hv : (20 ≤ v ∧ v ≤ 26 ∧ c = 1 ∧ d = 0) ∨ ((v = 27 ∨ v = 30 ∨ v = 31) ∧ c = d)) : PG s op0 ar0 nC (m + 1) op ar (zu pl m v) (zu pa m w) d := by
  obtain ⟨D, hc, h6⟩ := h
  refine ⟨D, PC_push hc (by omega), ?_⟩
  have zb := zB_s (zu pl m v) m
  rw [zu_eq, zB_ge (Nat.le_refl _)] at zb
  omega
theorem PG_wait {s : Nat} {op0 ar0 : Nat → Int} {nC m : Nat} {op ar pl pa : Nat → Int} {v w : Int} (h : PG s op0 ar0 nC m op ar pl pa 1) (hv : v = 28 ∨ v = 29) : PG s op0 ar0 (nC + 1) (m + 1) (zu op nC v) (zu ar nC w) (zu pl m v) (zu pa m (nC : Int)) 0 := by
  obtain ⟨D, ⟨h1, h2, h3, h4, h5⟩, h6⟩ := h
  have zb := zB_s (zu pl m v) m
  rw [zu_eq, zB_ge (Nat.le_refl _)] at zb
  refine ⟨zDu D (nC + 1) (zB pl m), ⟨by omega, by rw [zDu_ne _ _ (by omega)]; exact h2, fun k hk => ?_, fun i hi hp => ?_, fun k k1 k2 => ?_⟩, by rw [zDu_eq]; omega⟩
  · rw [zu_ne _ _ (by omega), zu_ne _ _ (by omega)]; exact h3 k hk
  · by_cases e : i = m
    · subst e
      exact ⟨nC, by rw [zu_eq], h1, by omega, by rw [zDu_ne _ _ (by omega), zB_ge (Nat.le_refl _)]; exact h6⟩
    · rw [zu_ne _ _ e] at hp
      obtain ⟨a, a1, a2, a3, a4⟩ := h4 i (by omega) hp
      exact ⟨a, by rw [zu_ne _ _ e]; exact a1, a2, by omega, by rw [zDu_ne _ _ (by omega), zB_ge (by omega)]; exact a4⟩
  · by_cases e : k = nC
    · subst e
      unfold zps
      rw [zu_eq, zDu_eq, zDu_ne D _ (show k ≠ k + 1 by omega)]
      exact Or.inr (Or.inr (Or.inr ⟨hv, by omega, Or.inr ⟨m, by omega, by rw [zu_eq]; exact hv, by rw [zu_eq]⟩⟩))
    · have hz := h5 k k1 (by omega)
      unfold zps at hz ⊢
      rw [zu_ne _ _ e, zu_ne _ _ e, zDu_ne D _ (show k + 1 ≠ nC + 1 by omega), zDu_ne D _ (show k ≠ nC + 1 by omega)]
      rcases hz with q | q | q | ⟨q1, q2, q3⟩
      · exact Or.inl q
      · exact Or.inr (Or.inl q)
      · exact Or.inr (Or.inr (Or.inl q))
      · refine Or.inr (Or.inr (Or.inr ⟨q1, q2, ?_⟩))
        rcases q3 with ⟨b, b1, b2, b3, b4⟩ | ⟨i, i1, i2, i3⟩
        · exact Or.inl ⟨b, b1, b2, by omega, by rw [zDu_ne _ _ (by omega)]; exact b4⟩
        · exact Or.inr ⟨i, by omega, by rw [zu_ne _ _ (by omega)]; exact i2, by rw [zu_ne _ _ (by omega)]; exact i3⟩
/-- an end: nothing waits -/
theorem PG_end {s : Nat} {op0 ar0 : Nat → Int} {nC : Nat} {op ar pl pa : Nat → Int} (h : PG s op0 ar0 nC 0 op ar pl pa 1) : ∃ D : Nat → Nat, D s = 0 ∧ s ≤ nC ∧ (∀ k, k < s → op k = op0 k ∧ ar k = ar0 k) ∧ (∀ k, s ≤ k → k ≤ nC → D k ≤ k - s) ∧ ∀ k, s ≤ k → k < nC → zcs (fun j => if j % 2 = 0 then op ((j - 98) / 2) else ar ((j - 98) / 2)) D nC k := by
  obtain ⟨D, ⟨h1, h2, h3, h4, h5⟩, h6⟩ := h
  have key : ∀ k, s ≤ k → k ≤ nC → D k ≤ k - s := by
    intro k
    induction k with
    | zero => intro k1 k2; have e : s = 0 := by omega
              subst e; omega
    | succ k ih =>
      intro k1 k2
      by_cases e : k + 1 = s
      · rw [e, h2]; omega
      · have hz := h5 k (by omega) (by omega)
        have := ih (by omega) (by omega)
        unfold zps at hz
        rcases hz with q | q | q | q <;> omega
  refine ⟨D, h2, h1, h3, key, fun k k1 k2 => ?_⟩
  have hz := h5 k k1 k2
  unfold zcs
  dsimp only
  rw [show (98 + 2 * k) % 2 = 0 by omega, show (99 + 2 * k) % 2 = 1 by omega, show (98 + 2 * k - 98) / 2 = k by omega, show (99 + 2 * k - 98) / 2 = k by omega]
  rw [if_pos rfl, if_neg (by decide)]
  rcases hz with q | q | q | ⟨q1, q2, q3⟩
  · exact Or.inl q
  · exact Or.inr (Or.inl q)
  · exact Or.inr (Or.inr (Or.inl q))
  · refine Or.inr (Or.inr (Or.inr ⟨q1, q2, ?_⟩))
    rcases q3 with q | ⟨i, i1, _⟩
    · exact q
    · omega
end
section
/-! OUR OWN: the pile and the code keep within their rows; a step of the reader -/
noncomputable def PV (fr nC pd : Int) (pl pa : Nat → Int) : Prop := 0 ≤ nC ∧ 0 ≤ pd ∧ pd ≤ fr ∧ nC + (zN pl pd.toNat : Int) ≤ fr ∧ (∀ i, i < pd.toNat → 20 ≤ pl i ∧ pl i ≤ 31) ∧ ∀ i, i < pd.toNat → (pl i = 28 ∨ pl i = 29) → 0 ≤ pa i ∧ pa i < 400
noncomputable def TG (c c' : Nat) (nC pd : Int) (op ar pl pa : Nat → Int) (nC' pd' : Int) (op' ar' pl' pa' : Nat → Int) : Prop := ∀ s op0 ar0, PG s op0 ar0 nC.toNat pd.toNat op ar pl pa c → PG s op0 ar0 nC'.toNat pd'.toNat op' ar' pl' pa' c'
theorem TG_r {c : Nat} {nC pd : Int} {op ar pl pa : Nat → Int} : TG c c nC pd op ar pl pa nC pd op ar pl pa := fun _ _ _ h => h
theorem TG_t {a b c : Nat} {n1 p1 n2 p2 n3 p3 : Int} {op1 ar1 pl1 pa1 op2 ar2 pl2 pa2 op3 ar3 pl3 pa3 : Nat → Int} (h : TG a b n1 p1 op1 ar1 pl1 pa1 n2 p2 op2 ar2 pl2 pa2) (g : TG b c n2 p2 op2 ar2 pl2 pa2 n3 p3 op3 ar3 pl3 pa3) : TG a c n1 p1 op1 ar1 pl1 pa1 n3 p3 op3 ar3 pl3 pa3 := fun s o r q => g s o r (h s o r q)
theorem PV_fr {fr fr' nC pd : Int} {pl pa : Nat → Int} (h : PV fr nC pd pl pa) (hf : fr ≤ fr') : PV fr' nC pd pl pa := by
  obtain ⟨h1, h2, h3, h4, h5, h6⟩ := h
  exact ⟨h1, h2, by omega, by omega, h5, h6⟩
theorem PV_pop {fr nC pd : Int} {pl pa : Nat → Int} (h : PV fr nC pd pl pa) (hp : 0 < pd) : PV fr nC (pd - 1) pl pa := by
  obtain ⟨h1, h2, h3, h4, h5, h6⟩ := h
  have e : pd.toNat = (pd - 1).toNat + 1 := by omega
  have z := zN_s pl (pd - 1).toNat
  rw [e] at h4
  exact ⟨h1, by omega, by omega, by omega, fun i hi => h5 i (by omega), fun i hi => h6 i (by omega)⟩
theorem PV_emit {fr nC pd : Int} {pl pa : Nat → Int} (h : PV fr nC pd pl pa) (hp : 0 < pd) (hb : 20 ≤ pl (pd - 1).toNat ∧ pl (pd - 1).toNat ≤ 27) : PV fr (nC + 1) (pd - 1) pl pa := by
  obtain ⟨h1, h2, h3, h4, h5, h6⟩ := h
  have e : pd.toNat = (pd - 1).toNat + 1 := by omega
  have z := zN_s pl (pd - 1).toNat
  rw [e] at h4
  exact ⟨by omega, by omega, by omega, by omega, fun i hi => h5 i (by omega), fun i hi => h6 i (by omega)⟩
theorem PV_push {fr fr' nC nC' pd v w : Int} {pl pa : Nat → Int} (h : PV fr nC pd pl pa) (hf : fr < fr') (hv : 20 ≤ v ∧ v ≤ 31) (hn : (nC' = nC) ∨ (28 ≤ v ∧ nC' = nC + 1)) (hw : (v = 28 ∨ v = 29) → 0 ≤ w ∧ w < 400) : PV fr' nC' (pd + 1) (zu pl pd.toNat v) (zu pa pd.toNat w) := by
  obtain ⟨h1, h2, h3, h4, h5, h6⟩ := h
  have e : (pd + 1).toNat = pd.toNat + 1 := by omega
  have z := zN_s (zu pl pd.toNat v) pd.toNat
  rw [zu_eq, zN_ge (Nat.le_refl _)] at z
  refine ⟨by omega, by omega, by omega, by rw [e]; omega, fun i hi => ?_, fun i hi hq => ?_⟩
  · by_cases q : i = pd.toNat
    · subst q; rw [zu_eq]; exact hv
    · rw [zu_ne _ _ q]; exact h5 i (by omega)
  · by_cases q : i = pd.toNat
    · subst q; rw [zu_eq] at hq ⊢; exact hw hq
    · rw [zu_ne _ _ q] at hq ⊢; exact h6 i (by omega) hq
theorem PS_sub {pl : Nat → Int} {m n : Nat} (h : PS pl m) (hn : n ≤ m) : PS pl n := fun i j a b c => h i j a (by omega) c
theorem NS_sub {pl : Nat → Int} {m n : Nat} (h : NS pl m) (hn : n ≤ m) : NS pl n := fun i a => h i (by omega)
theorem PS_push {pl : Nat → Int} {m : Nat} {v : Int} (h : PS pl m) (hv : (20 ≤ v ∧ v ≤ 23) ∨ v = 31 ∨ NS pl m) : PS (zu pl m v) (m + 1) := by
  intro i j a b c
  rw [zu_ne _ _ (by omega)] at c
  by_cases q : j = m
  · subst q; rw [zu_eq]
    rcases hv with g | g | g
    · exact Or.inl g
    · exact Or.inr g
    · exact absurd c (g i a)
  · rw [zu_ne _ _ q]; exact h i j a (by omega) c
theorem NS_push {pl : Nat → Int} {m : Nat} {v : Int} (h : NS pl m) (hv : v ≠ 31) : NS (zu pl m v) (m + 1) := by
  intro i a
  by_cases q : i = m
  · subst q; rw [zu_eq]; exact hv
  · rw [zu_ne _ _ q]; exact h i (by omega)
/-- what stands on top behind a settling -/
noncomputable def TOP (x1 pd : Int) (pl : Nat → Int) : Prop := pd ≤ 0 ∨ ((x1 ≤ 5 → ¬ (20 ≤ pl (pd - 1).toNat ∧ pl (pd - 1).toNat ≤ 23)) ∧ (x1 = 1 → 30 ≤ pl (pd - 1).toNat))
theorem s_HM_settle_0 (i_pile i_pileAt : Nat → Int) (fr : Int) (hfr : fr ≤ 400) : ∀ (n : Nat) (x1 i_nCode i_piled : Int) (i_nOp i_nArg : Nat → Int), (1 ≤ x1 ∧ x1 ≤ 6) → PV fr i_nCode i_piled i_pile i_pileAt → i_piled < (n : Int) → zok (f_HM_settle_0 i_pile i_pileAt n x1 i_nCode i_piled i_nOp i_nArg) (fun o => PV fr o.1 o.2.1 i_pile i_pileAt ∧ o.2.1 ≤ i_piled ∧ TOP x1 o.2.1 i_pile ∧ (∀ j, o.2.1.toNat ≤ j → j < i_piled.toNat → i_pile j < 30) ∧ TG 1 1 i_nCode i_piled i_nOp i_nArg i_pile i_pileAt o.1 o.2.1 o.2.2.1 o.2.2.2 i_pile i_pileAt) := by
  intro n
  induction n with
  | zero => intro x1 i_nCode i_piled i_nOp i_nArg hx hp hm; have := hp.2.1; exfalso; omega
  | succ n ih =>
    intro x1 i_nCode i_piled i_nOp i_nArg hx hp hm
    show zok (f_HM_settle_0_b i_pile i_pileAt (f_HM_settle_0 i_pile i_pileAt n) x1 i_nCode i_piled i_nOp i_nArg) _
    unfold f_HM_settle_0_b
    have h1 := hp.1
    have h2 := hp.2.1
    have h3 := hp.2.2.1
    have h4 := hp.2.2.2.1
    refine zk_ifc (zci_ler (by omega)) (fun hc => ?_) (fun hc => ?_)
    · exact zk_ret ⟨hp, Int.le_refl _, Or.inl hc, fun j a b => absurd b (Nat.not_lt.mpr a), TG_r⟩
    · have h5 := hp.2.2.2.2.1 (i_piled - 1).toNat (by omega)
      have h6 := hp.2.2.2.2.2 (i_piled - 1).toNat (by omega)
      have e : i_piled.toNat = (i_piled - 1).toNat + 1 := by omega
      have hz := zN_s i_pile (i_piled - 1).toNat
      rw [e] at h4
      refine zk_n ?_
      refine zk_gv (by omega) (by decide) (fun v2 h_v2 => ?_)
      refine zk_d1 (s_HM_binds _ (by omega)) (fun v3 hb => ?_)
      try dsimp only at hb
      refine zk_ifc (zci_lt (by omega) (by omega)) (fun hc_2 => ?_) (fun hc_2 => ?_)
      · refine zk_ret ⟨hp, Int.le_refl _, Or.inr ⟨fun _ => ?_, fun _ => ?_⟩, fun j a b => absurd b (Nat.not_lt.mpr a), TG_r⟩ <;> (dsimp only; omega)
      · have wait : (v2 = 28 ∨ v2 = 29) → zok (f_HM_settle_63 i_pile i_pileAt (f_HM_settle_0 i_pile i_pileAt n) x1 i_nCode (i_piled - 1) i_nOp i_nArg) (fun o => PV fr o.1 o.2.1 i_pile i_pileAt ∧ o.2.1 ≤ i_piled ∧ TOP x1 o.2.1 i_pile ∧ (∀ j, o.2.1.toNat ≤ j → j < i_piled.toNat → i_pile j < 30) ∧ TG 1 1 i_nCode i_piled i_nOp i_nArg i_pile i_pileAt o.1 o.2.1 o.2.2.1 o.2.2.2 i_pile i_pileAt) := by
          intro hv
          have h7 := h6 (by omega)
          unfold f_HM_settle_63
          refine zk_gv (by omega) (by decide) (fun v1_2 h_v1_2 => ?_)
          refine zk_sv (by omega) (by decide) (fun a2 h_a2 => ?_)
          refine zok_mono (ih _ _ _ _ _ hx (PV_pop hp (by omega)) (by omega)) (fun o ho => ⟨ho.1, by have := ho.2.1; omega, ho.2.2.1, fun j a b => (if q : j = (i_piled - 1).toNat then (by rw [q]; omega) else ho.2.2.2.1 j a (by omega)), TG_t (fun s op0 ar0 hg => ?_) ho.2.2.2.2⟩)
          rw [e] at hg
          have hg2 := PG_andor hg (by omega)
          rw [h_a2, h_v1_2]
          rw [show ((i_nCode.toNat : Nat) : Int) = i_nCode from by omega] at hg2
          exact hg2
        refine zk_n ?_
        refine zk_gv (by omega) (by decide) (fun v5 h_v5 => ?_)
        refine zk_ifc (zci_eq (by omega) (by omega)) (fun hc_3 => ?_) (fun hc_3 => ?_)
        · exact wait (by omega)
        · refine zk_gv (by omega) (by decide) (fun v6 h_v6 => ?_)
          refine zk_ifc (zci_ne (by omega) (by omega)) (fun hc_4 => ?_) (fun hc_4 => ?_)
          · refine zk_gv (by omega) (by decide) (fun v7 h_v7 => ?_)
            refine zk_d3 (s_HM_emit _ _ _ _ _ (by omega)) (fun v8 a9 a10 hq => ?_)
            dsimp only at hq
            obtain ⟨q1, q2, q3⟩ := hq
            refine zok_mono (ih _ _ _ _ _ hx (by rw [q1]; exact PV_emit hp (by omega) (by omega)) (by omega)) (fun o ho => ⟨ho.1, by have := ho.2.1; omega, ho.2.2.1, fun j a b => (if q : j = (i_piled - 1).toNat then (by rw [q]; omega) else ho.2.2.2.1 j a (by omega)), TG_t (fun s op0 ar0 hg => ?_) ho.2.2.2.2⟩)
            rw [e] at hg
            have hg2 := PG_emitop (w := 0) hg (by omega)
            rw [q1, q2, q3, h_v7, show (i_nCode + 1).toNat = i_nCode.toNat + 1 from by omega]
            exact hg2
          · exact wait (by omega)
theorem s_HM_settle (x1 : Int) (i_pile i_pileAt : Nat → Int) (i_nCode i_piled : Int) (i_nOp i_nArg : Nat → Int) (fr : Int) (hfr : fr ≤ 400) (hx : 1 ≤ x1 ∧ x1 ≤ 6) (hp : PV fr i_nCode i_piled i_pile i_pileAt) : zok (f_HM_settle x1 i_pile i_pileAt i_nCode i_piled i_nOp i_nArg) (fun o => PV fr o.1 o.2.1 i_pile i_pileAt ∧ o.2.1 ≤ i_piled ∧ TOP x1 o.2.1 i_pile ∧ (∀ j, o.2.1.toNat ≤ j → j < i_piled.toNat → i_pile j < 30) ∧ TG 1 1 i_nCode i_piled i_nOp i_nArg i_pile i_pileAt o.1 o.2.1 o.2.2.1 o.2.2.2 i_pile i_pileAt) := by
  unfold f_HM_settle
  exact s_HM_settle_0 i_pile i_pileAt fr hfr zfu _ _ _ _ _ hx hp (by have := hp.2.2.1; unfold zfu; omega)
end
