theorem x_sign {T : Nat → Int} {n m : Nat} {qs rs : Nat → Nat} {tk vl : Nat → Int} (hL : LEX T n m qs rs tk vl) {i : Nat} (hi : i ≤ m) {x : Int} (hx : 0 ≤ x ∧ x ≤ 255) {v : Int} (h : f_HM_isSign x (SO T n (qs i)) (WO T n (qs i) (rs i)) = some v) : (v = 1 ∧ tk i = x) ∨ (v = 0 ∧ tk i ≠ x) := by
  sorry
theorem x_word {T : Nat → Int} {n m : Nat} {qs rs : Nat → Nat} {tk vl : Nat → Int} (hL : LEX T n m qs rs tk vl) {i : Nat} (hi : i ≤ m) (k : Nat) (hk : 8 ≤ k ∧ k < 14) {x : Int} (hx : x = zcd k) {v : Int} (h : f_HM_isWord x (SO T n (qs i)) (WO T n (qs i) (rs i)) = some v) : (v = 1 ∧ tk i = 252 + (k : Int)) ∨ (v = 0 ∧ tk i ≠ 252 + (k : Int)) := by
  sorry
theorem zcd_r {k : Nat} (hk : k < 14) : 0 ≤ zcd k ∧ zcd k ≤ 700000000000 := by
  sorry
theorem zcd_i {a b : Nat} (ha : a < 14) (hb : b < 14) (h : zcd a = zcd b) : a = b := congrArg Fin.val (zcd_inj ⟨a, ha⟩ ⟨b, hb⟩ h)
theorem t_isPart {c v s w : Int} (h : TKR c v s w) (k : Nat) (hk : k < 8) {o : Int} (e : f_HM_isWord (zcd k) s w = some o) : (o = 1 ∧ c = 259 ∧ v = (k : Int)) ∨ (o = 0 ∧ ¬ (c = 259 ∧ v = (k : Int))) := by
  sorry
theorem x_part_4 {c v s w : Int} {W : Nat → Int} (hk : TKR c v s w) (hW : ∀ k : Nat, k < 8 → W k = zcd k) : ∀ (N k : Nat) (x1 o : Int), k ≤ 8 → f_HM_partAt_4 s w W N x1 (k : Int) = some o → o = if c = 259 ∧ (k : Int) ≤ v then v + 1 else x1 := by
  sorry
theorem x_partAt {c v s w : Int} {W : Nat → Int} (hk : TKR c v s w) (hW : ∀ k : Nat, k < 8 → W k = zcd k) {o : Int} (h : f_HM_partAt s w W = some o) : o = if c = 259 then v + 1 else -1 := by
  sorry
theorem x_leaf1 {T : Nat → Int} {n m : Nat} {qs rs : Nat → Nat} {tk vl : Nat → Int} (hL : LEX T n m qs rs tk vl) {i : Nat} (hi : i < m) {x y : Int} {c p : Nat} {op ar : Nat → Int} {r : Int × Int × Int × Int × Int × Int × Int × Int × (Nat → Int) × (Nat → Int)} (hc : c ≤ 1000) (hp : p < 50) (h : f_HM_leaf 1 x y (n : Int) T (qs i : Int) (rs i : Int) (SO T n (qs i)) (WO T n (qs i) (rs i)) (-1) 0 (c : Int) (p : Int) op ar = some r) : c < 400 ∧ r = ((qs (i + 1) : Int), (rs (i + 1) : Int), SO T n (qs (i + 1)), WO T n (qs (i + 1)) (rs (i + 1)), -1, 0, ((c + 1 : Nat) : Int), ((p + 1 : Nat) : Int), zu op c x, zu ar c y) := by
  sorry
theorem x_leaf0 {n : Int} {T : Nat → Int} {z fr to so wo : Int} {x y : Int} {c p : Nat} {op ar : Nat → Int} {r : Int × Int × Int × Int × Int × Int × Int × Int × (Nat → Int) × (Nat → Int)} (hz : z = 0 ∨ (z = 1 ∧ 50 ≤ p)) (hp : p ≤ 50) (h : f_HM_leaf z x y n T fr to so wo (-1) 0 (c : Int) (p : Int) op ar = some r) : r = (fr, to, so, wo, fr, 1, (c : Int), (p : Int), op, ar) := by
  sorry
theorem x_open1 {T : Nat → Int} {n m : Nat} {qs rs : Nat → Nat} {tk vl : Nat → Int} (hL : LEX T n m qs rs tk vl) {i : Nat} (hi : i < m) {x : Int} {pd b : Nat} {pl pa : Nat → Int} {r : Int × Int × Int × Int × Int × Int × Int × Int × (Nat → Int) × (Nat → Int)} (hpd : pd ≤ 1000) (hb : b < 8) (h : f_HM_openBracket x (n : Int) T (qs i : Int) (rs i : Int) (SO T n (qs i)) (WO T n (qs i) (rs i)) (-1) 0 (pd : Int) (b : Int) pl pa = some r) : pd < 400 ∧ r = ((qs (i + 1) : Int), (rs (i + 1) : Int), SO T n (qs (i + 1)), WO T n (qs (i + 1)) (rs (i + 1)), -1, 0, ((pd + 1 : Nat) : Int), ((b + 1 : Nat) : Int), zu pl pd x, zu pa pd 0) := by
  sorry
theorem x_open0 {n : Int} {T : Nat → Int} {x fr to so wo pd : Int} {pl pa : Nat → Int} {r : Int × Int × Int × Int × Int × Int × Int × Int × (Nat → Int) × (Nat → Int)} (h : f_HM_openBracket x n T fr to so wo (-1) 0 pd 8 pl pa = some r) : r = (fr, to, so, wo, fr, 1, pd, 8, pl, pa) := by
  sorry
theorem r_part {T : Nat → Int} {n m : Nat} {qs rs : Nat → Nat} {tk vl W : Nat → Int} {x1 : Int} {o : OX} (hL : LEX T n m qs rs tk vl) (hW : ∀ k : Nat, k < 8 → W k = zcd k) {i c p pd b : Nat} {op ar pl pa : Nat → Int} {t a1 a2 a3 a4 a5 a6 a7 a8 a9 a10 : Int} {f1 f2 f3 f4 : Nat → Int} (hi : i ≤ m) (hc : c ≤ 1000) (hp : p ≤ 50) (hpd : pd ≤ 1000) (hb : b ≤ 8)
    (h : f_HM_readPart (n : Int) T W (qs i : Int) (rs i : Int) (SO T n (qs i)) (WO T n (qs i) (rs i)) (-1) 0 (c : Int) (p : Int) (pd : Int) (b : Int) op ar pl pa = some (t, a1, a2, a3, a4, a5, a6, a7, a8, a9, a10, f1, f2, f3, f4))
    (g : ∃ N, f_HM_readExpression_20 (n : Int) T W N x1 t a1 a2 a3 a4 a5 a6 a7 a8 a9 a10 f1 f2 f3 f4 = some o) :
    (tk i = 91 ∧ b < 8 ∧ i < m ∧ pd < 400 ∧ EX T n W x1 qs rs o 1 (i + 1) c p (pd + 1) (b + 1) op ar (zu pl pd 31) (zu pa pd 0)) ∨
    (tk i = 258 ∧ i < m ∧ p < 50 ∧ c < 400 ∧ (0 ≤ vl i ∧ vl i ≤ 1000) ∧ EX T n W x1 qs rs o 3 (i + 1) (c + 1) (p + 1) pd b (zu op c 0) (zu ar c (vl i)) pl pa) ∨
    (∃ w : Nat, w < 8 ∧ tk i = 259 ∧ vl i = (w : Int) ∧ i < m ∧ p < 50 ∧ c < 400 ∧ EX T n W x1 qs rs o 3 (i + 1) (c + 1) (p + 1) pd b (zu op c ((w : Int) + 1)) (zu ar c 0) pl pa) ∨
    (((tk i = 91 ∧ b = 8) ∨ (tk i ≠ 91 ∧ (p = 50 ∨ (tk i ≠ 258 ∧ tk i ≠ 259)))) ∧ FL qs o i) := by
  sorry
theorem e_part {T : Nat → Int} {n m : Nat} {qs rs : Nat → Nat} {tk vl W : Nat → Int} {x1 : Int} {o : OX} (hL : LEX T n m qs rs tk vl) (hW : ∀ k : Nat, k < 8 → W k = zcd k) {i c p pd b : Nat} {op ar pl pa : Nat → Int} (hi : i ≤ m) (hc : c ≤ 1000) (hp : p ≤ 50) (hpd : pd ≤ 400) (hb : b ≤ 8) (h : EX T n W x1 qs rs o 1 i c p pd b op ar pl pa) :
    (tk i = 91 ∧ b < 8 ∧ i < m ∧ pd < 400 ∧ EX T n W x1 qs rs o 1 (i + 1) c p (pd + 1) (b + 1) op ar (zu pl pd 31) (zu pa pd 0)) ∨
    (tk i = 258 ∧ i < m ∧ p < 50 ∧ c < 400 ∧ (0 ≤ vl i ∧ vl i ≤ 1000) ∧ EX T n W x1 qs rs o 3 (i + 1) (c + 1) (p + 1) pd b (zu op c 0) (zu ar c (vl i)) pl pa) ∨
    (∃ w : Nat, w < 8 ∧ tk i = 259 ∧ vl i = (w : Int) ∧ i < m ∧ p < 50 ∧ c < 400 ∧ EX T n W x1 qs rs o 3 (i + 1) (c + 1) (p + 1) pd b (zu op c ((w : Int) + 1)) (zu ar c 0) pl pa) ∨
    (((tk i = 91 ∧ b = 8) ∨ (tk i ≠ 91 ∧ (p = 50 ∨ (tk i ≠ 258 ∧ tk i ≠ 259)))) ∧ FL qs o i) := by
  sorry
theorem e_plain {T : Nat → Int} {n m : Nat} {qs rs : Nat → Nat} {tk vl W : Nat → Int} {x1 : Int} {o : OX} (hL : LEX T n m qs rs tk vl) (hW : ∀ k : Nat, k < 8 → W k = zcd k) {i c p pd b : Nat} {op ar pl pa : Nat → Int} (hi : i ≤ m) (hc : c ≤ 1000) (hp : p ≤ 50) (hpd : pd ≤ 400) (hb : b ≤ 8) (h : EX T n W x1 qs rs o 0 i c p pd b op ar pl pa) :
    (tk i = 265 ∧ i < m ∧ pd < 400 ∧ EX T n W x1 qs rs o 0 (i + 1) c p (pd + 1) b op ar (zu pl pd 27) (zu pa pd 0)) ∨
    (tk i = 40 ∧ b < 8 ∧ i < m ∧ pd < 400 ∧ EX T n W x1 qs rs o 0 (i + 1) c p (pd + 1) (b + 1) op ar (zu pl pd 30) (zu pa pd 0)) ∨
    (tk i = 40 ∧ b = 8 ∧ FL qs o i) ∨
    ((tk i ≠ 265 ∧ tk i ≠ 40) ∧ EX T n W x1 qs rs o 1 i c p pd b op ar pl pa) := by
  sorry
def TKO (c q : Int) : Prop := (c = 43 ∧ q = 20) ∨ (c = 45 ∧ q = 21) ∨ (c = 42 ∧ q = 22) ∨ (c = 47 ∧ q = 23)
def NOP (c : Int) : Prop := c ≠ 43 ∧ c ≠ 45 ∧ c ≠ 42 ∧ c ≠ 47
def TKC (c q : Int) : Prop := (c = 60 ∧ q = 24) ∨ (c = 62 ∧ q = 25) ∨ (c = 61 ∧ q = 26)
theorem r_cmp1 {T : Nat → Int} {n m : Nat} {qs rs : Nat → Nat} {tk vl W : Nat → Int} {x1 : Int} {o : OX} (hL : LEX T n m qs rs tk vl) {i c p pd b : Nat} {op ar pl pa : Nat → Int} {t a1 a2 a3 a4 a5 a6 a7 a9 a10 : Int} {f1 f2 f3 f4 : Nat → Int} (hi : i ≤ m) (hc : c ≤ 1000) (hp : p ≤ 50) (hpd : pd ≤ 400) (hb : b ≤ 8) (hx : x1 = 0 ∨ x1 = 1) (hP : PLR pl pd) {q : Int} (him : i < m)
    (h : f_HM_behindSum_210 (n : Int) T q 1 (qs i : Int) (rs i : Int) (SO T n (qs i)) (WO T n (qs i) (rs i)) (-1) 0 (c : Int) (pd : Int) (b : Int) op ar pl pa = some (t, a1, a2, a3, a4, a5, a6, a7, a9, a10, f1, f2, f3, f4)) (g : ∃ N, f_HM_readExpression_20 (n : Int) T W N x1 t a1 a2 a3 a4 a5 a6 a7 (p : Int) a9 a10 f1 f2 f3 f4 = some o) : ∃ r, ST 5 pl pa c pd op ar r ∧ ∀ (c' pd' : Nat) (op' ar' : Nat → Int), r = ((c' : Int), (pd' : Int), op', ar') → pd' ≤ 1000 → pd' < 400 ∧ EX T n W x1 qs rs o 1 (i + 1) c' p (pd' + 1) b op' ar' (zu pl pd' q) (zu pa pd' 0) := by
  sorry
theorem r_cmp0 {T : Nat → Int} {n m : Nat} {qs rs : Nat → Nat} {tk vl W : Nat → Int} {x1 : Int} {o : OX} (hL : LEX T n m qs rs tk vl) {i c p pd b : Nat} {op ar pl pa : Nat → Int} {t a1 a2 a3 a4 a5 a6 a7 a9 a10 : Int} {f1 f2 f3 f4 : Nat → Int} (hi : i ≤ m) (hc : c ≤ 1000) (hp : p ≤ 50) (hpd : pd ≤ 400) (hb : b ≤ 8) (hx : x1 = 0 ∨ x1 = 1) (hP : PLR pl pd) {q : Int}
    (h : f_HM_behindSum_210 (n : Int) T q 0 (qs i : Int) (rs i : Int) (SO T n (qs i)) (WO T n (qs i) (rs i)) (-1) 0 (c : Int) (pd : Int) (b : Int) op ar pl pa = some (t, a1, a2, a3, a4, a5, a6, a7, a9, a10, f1, f2, f3, f4)) (g : ∃ N, f_HM_readExpression_20 (n : Int) T W N x1 t a1 a2 a3 a4 a5 a6 a7 (p : Int) a9 a10 f1 f2 f3 f4 = some o) : FL qs o i := by
  sorry
theorem CMV_r (pl : Nat → Int) : ∀ k, CMV pl k = 0 ∨ CMV pl k = 1 := by
  sorry
theorem r_test {T : Nat → Int} {n m : Nat} {qs rs : Nat → Nat} {tk vl W : Nat → Int} {x1 : Int} {o : OX} (hL : LEX T n m qs rs tk vl) {i c p pd b : Nat} {op ar pl pa : Nat → Int} {t a1 a2 a3 a4 a5 a6 a7 a9 a10 : Int} {f1 f2 f3 f4 : Nat → Int} (hi : i ≤ m) (hc : c ≤ 1000) (hp : p ≤ 50) (hpd : pd ≤ 400) (hb : b ≤ 8) (hx : x1 = 0 ∨ x1 = 1) (hP : PLR pl pd)
    (h : f_HM_behindSum_149 (n : Int) T (qs i : Int) (rs i : Int) (SO T n (qs i)) (WO T n (qs i) (rs i)) (-1) 0 (c : Int) (pd : Int) (b : Int) op ar pl pa = some (t, a1, a2, a3, a4, a5, a6, a7, a9, a10, f1, f2, f3, f4)) (g : ∃ N, f_HM_readExpression_20 (n : Int) T W N x1 t a1 a2 a3 a4 a5 a6 a7 (p : Int) a9 a10 f1 f2 f3 f4 = some o) : (CMV pl pd = 1 ∧ EX T n W x1 qs rs o 2 i c p pd b op ar pl pa) ∨ (CMV pl pd = 0 ∧ (∀ q, ¬ TKC (tk i) q) ∧ FL qs o i) ∨
       (CMV pl pd = 0 ∧ ∃ q r, TKC (tk i) q ∧ i < m ∧ ST 5 pl pa c pd op ar r ∧ ∀ (c' pd' : Nat) (op' ar' : Nat → Int), r = ((c' : Int), (pd' : Int), op', ar') → pd' ≤ 1000 → pd' < 400 ∧ EX T n W x1 qs rs o 1 (i + 1) c' p (pd' + 1) b op' ar' (zu pl pd' q) (zu pa pd' 0)) := by
  sorry
theorem INV_r {pl : Nat → Int} : ∀ k, PLR pl k → INVb pl k = -1 ∨ INVb pl k = 30 ∨ INVb pl k = 31 := by
  sorry
theorem r_sum57 {T : Nat → Int} {n m : Nat} {qs rs : Nat → Nat} {tk vl W : Nat → Int} {x1 : Int} {o : OX} (hL : LEX T n m qs rs tk vl) {i c p pd b : Nat} {op ar pl pa : Nat → Int} {t a1 a2 a3 a4 a5 a6 a7 a9 a10 : Int} {f1 f2 f3 f4 : Nat → Int} (hi : i ≤ m) (hc : c ≤ 1000) (hp : p ≤ 50) (hpd : pd ≤ 400) (hb : b ≤ 8) (hx : x1 = 0 ∨ x1 = 1) (hP : PLR pl pd)
    (h : f_HM_behindSum_57 (n : Int) T x1 (-1) (qs i : Int) (rs i : Int) (SO T n (qs i)) (WO T n (qs i) (rs i)) (-1) 0 (c : Int) (pd : Int) (b : Int) op ar pl pa = some (t, a1, a2, a3, a4, a5, a6, a7, a9, a10, f1, f2, f3, f4)) (g : ∃ N, f_HM_readExpression_20 (n : Int) T W N x1 t a1 a2 a3 a4 a5 a6 a7 (p : Int) a9 a10 f1 f2 f3 f4 = some o) : ((INVb pl pd = 31 ∧ tk i ≠ 93 ∧ FL qs o i) ∨
       (INVb pl pd = 31 ∧ tk i = 93 ∧ i < m ∧ ∃ r, ST 5 pl pa c pd op ar r ∧ ∀ (c' pd' b' : Nat) (op' ar' : Nat → Int), r = ((c' : Int), ((pd' + 1 : Nat) : Int), op', ar') → b = b' + 1 → EX T n W x1 qs rs o 3 (i + 1) c' p pd' b' op' ar' pl pa) ∨
       (INVb pl pd = -1 ∧ x1 = 0 ∧ EX T n W x1 qs rs o 4 i c p pd b op ar pl pa) ∨
       (INVb pl pd ≠ 31 ∧ (INVb pl pd ≠ -1 ∨ x1 ≠ 0) ∧ CMV pl pd = 1 ∧ EX T n W x1 qs rs o 2 i c p pd b op ar pl pa) ∨
       (INVb pl pd ≠ 31 ∧ (INVb pl pd ≠ -1 ∨ x1 ≠ 0) ∧ CMV pl pd = 0 ∧ (∀ q, ¬ TKC (tk i) q) ∧ FL qs o i) ∨
       (INVb pl pd ≠ 31 ∧ (INVb pl pd ≠ -1 ∨ x1 ≠ 0) ∧ CMV pl pd = 0 ∧ ∃ q r, TKC (tk i) q ∧ i < m ∧ ST 5 pl pa c pd op ar r ∧ ∀ (c' pd' : Nat) (op' ar' : Nat → Int), r = ((c' : Int), (pd' : Int), op', ar') → pd' ≤ 1000 → pd' < 400 ∧ EX T n W x1 qs rs o 1 (i + 1) c' p (pd' + 1) b op' ar' (zu pl pd' q) (zu pa pd' 0))) := by
  sorry
theorem r_sumop {T : Nat → Int} {n m : Nat} {qs rs : Nat → Nat} {tk vl W : Nat → Int} {x1 : Int} {o : OX} (hL : LEX T n m qs rs tk vl) {i c p pd b : Nat} {op ar pl pa : Nat → Int} {t a1 a2 a3 a4 a5 a6 a7 a9 a10 : Int} {f1 f2 f3 f4 : Nat → Int} (hi : i ≤ m) (hc : c ≤ 1000) (hp : p ≤ 50) (hpd : pd ≤ 400) (hb : b ≤ 8) {q : Int} (hq : 20 ≤ q ∧ q ≤ 23) (him : i < m)
    (h : f_HM_behindSum_57 (n : Int) T x1 q (qs i : Int) (rs i : Int) (SO T n (qs i)) (WO T n (qs i) (rs i)) (-1) 0 (c : Int) (pd : Int) (b : Int) op ar pl pa = some (t, a1, a2, a3, a4, a5, a6, a7, a9, a10, f1, f2, f3, f4)) (g : ∃ N, f_HM_readExpression_20 (n : Int) T W N x1 t a1 a2 a3 a4 a5 a6 a7 (p : Int) a9 a10 f1 f2 f3 f4 = some o) : ∃ r, ST (BDS q) pl pa c pd op ar r ∧ ∀ (c' pd' : Nat) (op' ar' : Nat → Int), r = ((c' : Int), (pd' : Int), op', ar') → pd' ≤ 1000 → pd' < 400 ∧ EX T n W x1 qs rs o 1 (i + 1) c' p (pd' + 1) b op' ar' (zu pl pd' q) (zu pa pd' 0) := by
  sorry
theorem e_sum {T : Nat → Int} {n m : Nat} {qs rs : Nat → Nat} {tk vl W : Nat → Int} {x1 : Int} {o : OX} (hL : LEX T n m qs rs tk vl) {i c p pd b : Nat} {op ar pl pa : Nat → Int} (hi : i ≤ m) (hc : c ≤ 1000) (hp : p ≤ 50) (hpd : pd ≤ 400) (hb : b ≤ 8) (hx : x1 = 0 ∨ x1 = 1) (hP : PLR pl pd) (h : EX T n W x1 qs rs o 3 i c p pd b op ar pl pa) :
    (∃ q r, TKO (tk i) q ∧ i < m ∧ ST (BDS q) pl pa c pd op ar r ∧ ∀ (c' pd' : Nat) (op' ar' : Nat → Int), r = ((c' : Int), (pd' : Int), op', ar') → pd' ≤ 1000 → pd' < 400 ∧ EX T n W x1 qs rs o 1 (i + 1) c' p (pd' + 1) b op' ar' (zu pl pd' q) (zu pa pd' 0)) ∨
    (NOP (tk i) ∧
      ((INVb pl pd = 31 ∧ tk i ≠ 93 ∧ FL qs o i) ∨
       (INVb pl pd = 31 ∧ tk i = 93 ∧ i < m ∧ ∃ r, ST 5 pl pa c pd op ar r ∧ ∀ (c' pd' b' : Nat) (op' ar' : Nat → Int), r = ((c' : Int), ((pd' + 1 : Nat) : Int), op', ar') → b = b' + 1 → EX T n W x1 qs rs o 3 (i + 1) c' p pd' b' op' ar' pl pa) ∨
       (INVb pl pd = -1 ∧ x1 = 0 ∧ EX T n W x1 qs rs o 4 i c p pd b op ar pl pa) ∨
       (INVb pl pd ≠ 31 ∧ (INVb pl pd ≠ -1 ∨ x1 ≠ 0) ∧ CMV pl pd = 1 ∧ EX T n W x1 qs rs o 2 i c p pd b op ar pl pa) ∨
       (INVb pl pd ≠ 31 ∧ (INVb pl pd ≠ -1 ∨ x1 ≠ 0) ∧ CMV pl pd = 0 ∧ (∀ q, ¬ TKC (tk i) q) ∧ FL qs o i) ∨
       (INVb pl pd ≠ 31 ∧ (INVb pl pd ≠ -1 ∨ x1 ≠ 0) ∧ CMV pl pd = 0 ∧ ∃ q r, TKC (tk i) q ∧ i < m ∧ ST 5 pl pa c pd op ar r ∧ ∀ (c' pd' : Nat) (op' ar' : Nat → Int), r = ((c' : Int), (pd' : Int), op', ar') → pd' ≤ 1000 → pd' < 400 ∧ EX T n W x1 qs rs o 1 (i + 1) c' p (pd' + 1) b op' ar' (zu pl pd' q) (zu pa pd' 0)))) := by
  sorry
