/-! OUR OWN: the reference's row -/
def zlo (j : Nat) : Int := if j < 4 then 0 else if j = 4 then -1 else if j < 6 then 0 else if j < 8 then 1 else if j < 141 then 0 else if j < 153 then -1 else 0
def zhi (j : Nat) : Int := if j = 0 then 12 else if j < 4 then 6 else if j = 4 then 5 else if j = 5 then 99 else if j < 8 then 9 else if j = 8 then 30 else if j < 21 then 10 else if j < 141 then 30 else if j < 153 then 10 else if j < 171 then 60 else 11
/-- an instruction of a law's code, D: how many numbers lie on the pile ahead of it -/
def zcs (t : Nat → Int) (D : Nat → Nat) (e k : Nat) : Prop :=
  (0 ≤ t (98 + 2 * k) ∧ t (98 + 2 * k) ≤ 8 ∧ D (k + 1) = D k + 1) ∨
  (20 ≤ t (98 + 2 * k) ∧ t (98 + 2 * k) ≤ 26 ∧ D (k + 1) + 1 = D k ∧ 2 ≤ D k) ∨
  (t (98 + 2 * k) = 27 ∧ D (k + 1) = D k ∧ 1 ≤ D k) ∨
  ((t (98 + 2 * k) = 28 ∨ t (98 + 2 * k) = 29) ∧ D (k + 1) + 1 = D k ∧ ∃ a : Nat, t (99 + 2 * k) = (a : Int) ∧ k < a ∧ a ≤ e ∧ D a = D k)
def CWF (t : Nat → Int) (s e : Nat) : Prop := s ≤ e ∧ e ≤ 400 ∧ ∃ D : Nat → Nat, D s = 0 ∧ (∀ k, s ≤ k → k ≤ e → D k ≤ 400) ∧ ∀ k, s ≤ k → k < e → zcs t D e k
def LWF (t : Nat → Int) : Prop := 0 ≤ t 1 ∧ t 1 ≤ 12 ∧ ∀ c : Nat, (c : Int) < t 1 → ∃ s1 e1 s2 e2 : Nat, (t (2 + 8 * c) = 0 ∨ t (2 + 8 * c) = 1) ∧ t (5 + 8 * c) = (s1 : Int) ∧ t (6 + 8 * c) = (e1 : Int) ∧ t (7 + 8 * c) = (s2 : Int) ∧ t (8 + 8 * c) = (e2 : Int) ∧ CWF t s1 e1 ∧ CWF t s2 e2
def RI (r : Nat → Int) : Prop := (∀ j, j < 177 → zlo j ≤ r j ∧ r j ≤ zhi j) ∧ r 4 < r 3 ∧ ∀ l : Nat, (l : Int) < r 3 → LWF (fun j => r (180 + 900 * l + j))
theorem RI_j {r : Nat → Int} (h : RI r) {lo hi : Int} (j : Nat) (hj : j < 177) (h1 : lo ≤ zlo j) (h2 : zhi j ≤ hi) : lo ≤ r j ∧ r j ≤ hi := by
  have := h.1 j hj
  omega
theorem RI_0 {r : Nat → Int} (h : RI r) : 0 ≤ r 0 ∧ r 0 ≤ 12 := RI_j h 0 (by decide) (by decide) (by decide)
theorem RI_1 {r : Nat → Int} (h : RI r) : 0 ≤ r 1 ∧ r 1 ≤ 6 := RI_j h 1 (by decide) (by decide) (by decide)
theorem RI_2 {r : Nat → Int} (h : RI r) : 0 ≤ r 2 ∧ r 2 ≤ 6 := RI_j h 2 (by decide) (by decide) (by decide)
theorem RI_3 {r : Nat → Int} (h : RI r) : 0 ≤ r 3 ∧ r 3 ≤ 6 := RI_j h 3 (by decide) (by decide) (by decide)
theorem RI_4 {r : Nat → Int} (h : RI r) : -1 ≤ r 4 ∧ r 4 ≤ 5 ∧ r 4 < r 3 := by
  have h1 := RI_j h (lo := -1) (hi := 5) 4 (by decide) (by decide) (by decide)
  exact ⟨h1.1, h1.2, h.2.1⟩
theorem RI_5 {r : Nat → Int} (h : RI r) : 0 ≤ r 5 ∧ r 5 ≤ 99 := RI_j h 5 (by decide) (by decide) (by decide)
theorem RI_6 {r : Nat → Int} (h : RI r) : 1 ≤ r 6 ∧ r 6 ≤ 9 := RI_j h 6 (by decide) (by decide) (by decide)
theorem RI_7 {r : Nat → Int} (h : RI r) : 1 ≤ r 7 ∧ r 7 ≤ 9 := RI_j h 7 (by decide) (by decide) (by decide)
theorem RI_8 {r : Nat → Int} (h : RI r) : 0 ≤ r 8 ∧ r 8 ≤ 30 := RI_j h 8 (by decide) (by decide) (by decide)
theorem zlh_t : ∀ j : Fin 177, 5 ≤ j.val ∧ j.val < 9 → 0 ≤ zlo j.val ∧ zhi j.val ≤ 99 := by decide +kernel
theorem zlh_h : ∀ j : Fin 177, 9 ≤ j.val ∧ j.val < 21 → zlo j.val = 0 ∧ zhi j.val = 10 := by decide +kernel
theorem zlh_s : ∀ j : Fin 177, 21 ≤ j.val ∧ j.val < 141 → zlo j.val = 0 ∧ zhi j.val = 30 := by decide +kernel
theorem zlh_g : ∀ j : Fin 177, 141 ≤ j.val ∧ j.val < 153 → zlo j.val = -1 ∧ zhi j.val = 10 := by decide +kernel
theorem zlh_c : ∀ j : Fin 177, 153 ≤ j.val ∧ j.val < 171 → zlo j.val = 0 ∧ zhi j.val = 60 := by decide +kernel
theorem zlh_p : ∀ j : Fin 177, 171 ≤ j.val ∧ j.val < 177 → zlo j.val = 0 ∧ zhi j.val = 11 := by decide +kernel
theorem RI_t {r : Nat → Int} (h : RI r) {i : Int} (hi : 5 ≤ i ∧ i < 9) : 0 ≤ r i.toNat ∧ r i.toNat ≤ 99 :=
  RI_j h i.toNat (by omega) (by have z := zlh_t ⟨i.toNat, by omega⟩ (by dsimp only; omega); dsimp only at z; omega) (by have z := zlh_t ⟨i.toNat, by omega⟩ (by dsimp only; omega); dsimp only at z; omega)
theorem RI_h {r : Nat → Int} (h : RI r) {i : Int} (hi : 9 ≤ i ∧ i < 21) : 0 ≤ r i.toNat ∧ r i.toNat ≤ 10 :=
  RI_j h i.toNat (by omega) (by have z := zlh_h ⟨i.toNat, by omega⟩ (by dsimp only; omega); dsimp only at z; omega) (by have z := zlh_h ⟨i.toNat, by omega⟩ (by dsimp only; omega); dsimp only at z; omega)
theorem RI_s {r : Nat → Int} (h : RI r) {i : Int} (hi : 21 ≤ i ∧ i < 141) : 0 ≤ r i.toNat ∧ r i.toNat ≤ 30 :=
  RI_j h i.toNat (by omega) (by have z := zlh_s ⟨i.toNat, by omega⟩ (by dsimp only; omega); dsimp only at z; omega) (by have z := zlh_s ⟨i.toNat, by omega⟩ (by dsimp only; omega); dsimp only at z; omega)
theorem RI_g {r : Nat → Int} (h : RI r) {i : Int} (hi : 141 ≤ i ∧ i < 153) : -1 ≤ r i.toNat ∧ r i.toNat ≤ 10 :=
  RI_j h i.toNat (by omega) (by have z := zlh_g ⟨i.toNat, by omega⟩ (by dsimp only; omega); dsimp only at z; omega) (by have z := zlh_g ⟨i.toNat, by omega⟩ (by dsimp only; omega); dsimp only at z; omega)
theorem RI_c {r : Nat → Int} (h : RI r) {i : Int} (hi : 153 ≤ i ∧ i < 171) : 0 ≤ r i.toNat ∧ r i.toNat ≤ 60 :=
  RI_j h i.toNat (by omega) (by have z := zlh_c ⟨i.toNat, by omega⟩ (by dsimp only; omega); dsimp only at z; omega) (by have z := zlh_c ⟨i.toNat, by omega⟩ (by dsimp only; omega); dsimp only at z; omega)
theorem RI_p {r : Nat → Int} (h : RI r) {i : Int} (hi : 171 ≤ i ∧ i < 177) : 0 ≤ r i.toNat ∧ r i.toNat ≤ 11 :=
  RI_j h i.toNat (by omega) (by have z := zlh_p ⟨i.toNat, by omega⟩ (by dsimp only; omega); dsimp only at z; omega) (by have z := zlh_p ⟨i.toNat, by omega⟩ (by dsimp only; omega); dsimp only at z; omega)
theorem LWF_ext {t u : Nat → Int} (h : LWF t) (e : ∀ j, j < 900 → u j = t j) : LWF u := by
  obtain ⟨h1, h2, h3⟩ := h
  refine ⟨by rw [e 1 (by omega)]; exact h1, by rw [e 1 (by omega)]; exact h2, fun c hc => ?_⟩
  rw [e 1 (by omega)] at hc
  have hc2 : c < 12 := by omega
  obtain ⟨s1, e1, s2, e2, q0, q1, q2, q3, q4, c1, c2⟩ := h3 c hc
  have key : ∀ s f : Nat, CWF t s f → CWF u s f := by
    rintro s f ⟨g1, g2, D, g3, g4, g5⟩
    refine ⟨g1, g2, D, g3, g4, fun k k1 k2 => ?_⟩
    have := g5 k k1 k2
    unfold zcs at this ⊢
    rw [e (98 + 2 * k) (by omega), e (99 + 2 * k) (by omega)]
    exact this
  exact ⟨s1, e1, s2, e2, by rw [e _ (by omega)]; exact q0, by rw [e _ (by omega)]; exact q1, by rw [e _ (by omega)]; exact q2, by rw [e _ (by omega)]; exact q3, by rw [e _ (by omega)]; exact q4, key _ _ c1, key _ _ c2⟩
theorem RI_ext {r q : Nat → Int} (h : RI r) (e : ∀ j, j < 5580 → q j = r j) : RI q := by
  refine ⟨fun j hj => by rw [e j (by omega)]; exact h.1 j hj, by rw [e 4 (by omega), e 3 (by omega)]; exact h.2.1, fun l hl => ?_⟩
  rw [e 3 (by omega)] at hl
  have h3 := RI_3 h
  exact LWF_ext (h.2.2 l hl) (fun j hj => e _ (by omega))
theorem RI_zu {r : Nat → Int} (h : RI r) {i : Nat} {v : Int} (hi : i < 177) (h3 : i ≠ 3) (h4 : i ≠ 4) (h1 : zlo i ≤ v) (h2 : v ≤ zhi i) : RI (zu r i v) := by
  refine ⟨fun j hj => ?_, by rw [zu_ne _ _ (by omega), zu_ne _ _ (by omega)]; exact h.2.1, fun l hl => ?_⟩
  · by_cases q : j = i
    · subst q; rw [zu_eq]; exact ⟨h1, h2⟩
    · rw [zu_ne _ _ q]; exact h.1 j hj
  · rw [zu_ne _ _ (by omega)] at hl
    exact LWF_ext (h.2.2 l hl) (fun j hj => zu_ne _ _ (by omega))
theorem RIz_0 {r : Nat → Int} (h : RI r) {v : Int} (hv : 0 ≤ v ∧ v ≤ 12) : RI (zu r 0 v) := RI_zu h (by decide) (by decide) (by decide) (by exact hv.1) (by exact hv.2)
theorem RIz_1 {r : Nat → Int} (h : RI r) {v : Int} (hv : 0 ≤ v ∧ v ≤ 6) : RI (zu r 1 v) := RI_zu h (by decide) (by decide) (by decide) (by exact hv.1) (by exact hv.2)
theorem RIz_2 {r : Nat → Int} (h : RI r) {v : Int} (hv : 0 ≤ v ∧ v ≤ 6) : RI (zu r 2 v) := RI_zu h (by decide) (by decide) (by decide) (by exact hv.1) (by exact hv.2)
theorem RIz_4 {r : Nat → Int} (h : RI r) {v : Int} (hv : -1 ≤ v ∧ v < r 3) : RI (zu r 4 v) := by
  have h3 := RI_3 h
  refine ⟨fun j hj => ?_, by rw [zu_eq, zu_ne _ _ (by decide)]; exact hv.2, fun l hl => ?_⟩
  · by_cases q : j = 4
    · subst q; rw [zu_eq]; exact ⟨hv.1, by have : zhi 4 = 5 := rfl; omega⟩
    · rw [zu_ne _ _ q]; exact h.1 j hj
  · rw [zu_ne _ _ (by decide)] at hl
    exact LWF_ext (h.2.2 l hl) (fun j hj => zu_ne _ _ (by omega))
theorem RIz_t {r : Nat → Int} (h : RI r) {i v : Int} (hi : 5 ≤ i ∧ i < 9) (hv : (i = 5 ∧ 0 ≤ v ∧ v ≤ 99) ∨ (i = 6 ∧ 1 ≤ v ∧ v ≤ 9) ∨ (i = 7 ∧ 1 ≤ v ∧ v ≤ 9) ∨ (i = 8 ∧ 0 ≤ v ∧ v ≤ 30)) : RI (zu r i.toNat v) := by
  have z : ∀ j : Nat, (j = 5 → zlo j = 0 ∧ zhi j = 99) ∧ (j = 6 → zlo j = 1 ∧ zhi j = 9) ∧ (j = 7 → zlo j = 1 ∧ zhi j = 9) ∧ (j = 8 → zlo j = 0 ∧ zhi j = 30) := fun j => ⟨fun e => by subst e; decide, fun e => by subst e; decide, fun e => by subst e; decide, fun e => by subst e; decide⟩
  have y := z i.toNat
  exact RI_zu h (by omega) (by omega) (by omega) (by omega) (by omega)
theorem RIz_h {r : Nat → Int} (h : RI r) {i v : Int} (hi : 9 ≤ i ∧ i < 21) (hv : 0 ≤ v ∧ v ≤ 10) : RI (zu r i.toNat v) :=
  RI_zu h (by omega) (by omega) (by omega) (by have z := zlh_h ⟨i.toNat, by omega⟩ (by dsimp only; omega); dsimp only at z; omega) (by have z := zlh_h ⟨i.toNat, by omega⟩ (by dsimp only; omega); dsimp only at z; omega)
theorem RIz_s {r : Nat → Int} (h : RI r) {i v : Int} (hi : 21 ≤ i ∧ i < 141) (hv : 0 ≤ v ∧ v ≤ 30) : RI (zu r i.toNat v) :=
  RI_zu h (by omega) (by omega) (by omega) (by have z := zlh_s ⟨i.toNat, by omega⟩ (by dsimp only; omega); dsimp only at z; omega) (by have z := zlh_s ⟨i.toNat, by omega⟩ (by dsimp only; omega); dsimp only at z; omega)
theorem RIz_g {r : Nat → Int} (h : RI r) {i v : Int} (hi : 141 ≤ i ∧ i < 153) (hv : -1 ≤ v ∧ v ≤ 10) : RI (zu r i.toNat v) :=
  RI_zu h (by omega) (by omega) (by omega) (by have z := zlh_g ⟨i.toNat, by omega⟩ (by dsimp only; omega); dsimp only at z; omega) (by have z := zlh_g ⟨i.toNat, by omega⟩ (by dsimp only; omega); dsimp only at z; omega)
theorem RIz_c {r : Nat → Int} (h : RI r) {i v : Int} (hi : 153 ≤ i ∧ i < 171) (hv : 0 ≤ v ∧ v ≤ 60) : RI (zu r i.toNat v) :=
  RI_zu h (by omega) (by omega) (by omega) (by have z := zlh_c ⟨i.toNat, by omega⟩ (by dsimp only; omega); dsimp only at z; omega) (by have z := zlh_c ⟨i.toNat, by omega⟩ (by dsimp only; omega); dsimp only at z; omega)
theorem RIz_p {r : Nat → Int} (h : RI r) {i v : Int} (hi : 171 ≤ i ∧ i < 177) (hv : 0 ≤ v ∧ v ≤ 11) : RI (zu r i.toNat v) :=
  RI_zu h (by omega) (by omega) (by omega) (by have z := zlh_p ⟨i.toNat, by omega⟩ (by dsimp only; omega); dsimp only at z; omega) (by have z := zlh_p ⟨i.toNat, by omega⟩ (by dsimp only; omega); dsimp only at z; omega)
/-- the sum of the squares: slides make it less -/
def zq (h : Nat → Int) : Nat → Int
  | 0 => 0
  | n + 1 => zq h n + h n * h n
theorem zq_ge {h : Nat → Int} {i n : Nat} {v : Int} (hn : n ≤ i) : zq (zu h i v) n = zq h n := by
  induction n with
  | zero => rfl
  | succ n ih => show zq (zu h i v) n + zu h i v n * zu h i v n = zq h n + h n * h n; rw [ih (by omega), zu_ne _ _ (by omega)]
theorem zq_zu {h : Nat → Int} {i n : Nat} {v : Int} (hn : i < n) : zq (zu h i v) n = zq h n - h i * h i + v * v := by
  induction n with
  | zero => omega
  | succ n ih =>
    show zq (zu h i v) n + zu h i v n * zu h i v n = zq h n + h n * h n - h i * h i + v * v
    by_cases q : i = n
    · subst q; rw [zq_ge (Nat.le_refl _), zu_eq]; omega
    · rw [ih (by omega), zu_ne _ _ (by omega)]; omega
theorem zq_le {h : Nat → Int} (hh : zR h 0 10) (n : Nat) : 0 ≤ zq h n ∧ zq h n ≤ 100 * (n : Int) := by
  induction n with
  | zero => exact ⟨Int.le_refl 0, Int.le_refl 0⟩
  | succ n ih =>
    have h1 := hh n
    have h2 := zmulb (a := h n) (b := h n) 10 10 h1 h1
    show 0 ≤ zq h n + h n * h n ∧ zq h n + h n * h n ≤ 100 * ((n + 1 : Nat) : Int)
    omega
theorem zq_shift {h : Nat → Int} {i j : Nat} (hi : i < 12) (hj : j < 12) (hij : i ≠ j) (hd : h j + 2 ≤ h i) : zq (zu (zu h i (h i - 1)) j (h j + 1)) 12 < zq h 12 := by
  rw [zq_zu hj, zq_zu hi, zu_ne _ _ (by omega)]
  have e1 : (h i - 1) * (h i - 1) = h i * h i - 2 * h i + 1 := by
    rw [Int.sub_mul, Int.mul_sub, Int.mul_sub]; omega
  have e2 : (h j + 1) * (h j + 1) = h j * h j + 2 * h j + 1 := by
    rw [Int.add_mul, Int.mul_add, Int.mul_add]; omega
  rw [e1, e2]
  omega
