/-! PURE: counting; the keys of the suffixes; rows -/
/-- how many i under k have P -/
def zcnt (P : Nat → Bool) : Nat → Nat
  | 0 => 0
  | k + 1 => zcnt P k + (if P k = true then 1 else 0)
theorem zcnt_s (P : Nat → Bool) (k : Nat) : zcnt P (k + 1) = zcnt P k + (if P k = true then 1 else 0) := rfl
theorem zcnt_t {P : Nat → Bool} {k : Nat} (h : P k = true) : zcnt P (k + 1) = zcnt P k + 1 := by rw [zcnt_s, if_pos h]
theorem zcnt_f {P : Nat → Bool} {k : Nat} (h : ¬ P k = true) : zcnt P (k + 1) = zcnt P k := by rw [zcnt_s, if_neg h, Nat.add_zero]
theorem zcnt_le (P : Nat → Bool) : ∀ k, zcnt P k ≤ k
  | 0 => Nat.le_refl 0
  | k + 1 => by
    have h := zcnt_le P k
    rw [zcnt_s]
    by_cases q : P k = true
    · rw [if_pos q]; omega
    · rw [if_neg q]; omega
theorem zcnt_congr {P P' : Nat → Bool} : ∀ k, (∀ i, i < k → P i = P' i) → zcnt P k = zcnt P' k
  | 0, _ => rfl
  | k + 1, h => by
    rw [zcnt_s, zcnt_s, zcnt_congr k (fun i hi => h i (by omega)), h k (by omega)]
theorem zcnt_mono (P : Nat → Bool) {a b : Nat} (h : a ≤ b) : zcnt P a ≤ zcnt P b := by
  induction b with
  | zero =>
    have q : a = 0 := by omega
    subst q
    exact Nat.le_refl _
  | succ b ih =>
    rcases Nat.lt_or_ge b a with q | q
    · have q2 : a = b + 1 := by omega
      subst q2
      exact Nat.le_refl _
    · have q2 := ih q
      rw [zcnt_s]
      omega
theorem zcnt_imp {P P' : Nat → Bool} : ∀ k, (∀ i, i < k → P i = true → P' i = true) → zcnt P k ≤ zcnt P' k
  | 0, _ => Nat.le_refl _
  | k + 1, h => by
    have h1 := zcnt_imp k (fun i hi => h i (by omega))
    rw [zcnt_s, zcnt_s]
    by_cases q : P k = true
    · rw [if_pos q, if_pos (h k (by omega) q)]; omega
    · rw [if_neg q]; omega
theorem zcnt_lt {P P' : Nat → Bool} {j : Nat} : ∀ k, j < k → (∀ i, i < k → P i = true → P' i = true) → ¬ P j = true → P' j = true → zcnt P k < zcnt P' k
  | 0, hj, _, _, _ => absurd hj (Nat.not_lt_zero _)
  | k + 1, hj, h, hn, hp => by
    rw [zcnt_s, zcnt_s]
    by_cases e : j = k
    · subst e
      have h1 := zcnt_imp j (fun i hi => h i (by omega))
      rw [if_neg hn, if_pos hp]; omega
    · have h1 := zcnt_lt k (by omega) (fun i hi => h i (by omega)) hn hp
      by_cases q : P k = true
      · rw [if_pos q, if_pos (h k (by omega) q)]; omega
      · rw [if_neg q]; omega
theorem zcnt_add {P Q R : Nat → Bool} : ∀ k, (∀ i, i < k → (if R i = true then 1 else 0) = (if P i = true then 1 else 0) + (if Q i = true then (1 : Nat) else 0)) → zcnt R k = zcnt P k + zcnt Q k
  | 0, _ => rfl
  | k + 1, h => by
    have h1 := zcnt_add k (fun i hi => h i (by omega))
    have h2 := h k (by omega)
    rw [zcnt_s, zcnt_s, zcnt_s, h1, h2]
    omega
theorem zcnt_none {P : Nat → Bool} : ∀ k, (∀ i, i < k → ¬ P i = true) → zcnt P k = 0
  | 0, _ => rfl
  | k + 1, h => by rw [zcnt_s, zcnt_none k (fun i hi => h i (by omega)), if_neg (h k (by omega))]
theorem zcnt_zero {P : Nat → Bool} : ∀ k, zcnt P k = 0 → ∀ i, i < k → ¬ P i = true
  | 0, _, i, hi => absurd hi (Nat.not_lt_zero _)
  | k + 1, h, i, hi => by
    rw [zcnt_s] at h
    by_cases e : i = k
    · subst e
      intro q
      rw [if_pos q] at h
      omega
    · exact zcnt_zero k (by omega) i (by omega)
theorem zcnt_one {P : Nat → Bool} {j : Nat} : ∀ k, j < k → (∀ i, i < k → (P i = true ↔ i = j)) → zcnt P k = 1
  | 0, hj, _ => absurd hj (Nat.not_lt_zero _)
  | k + 1, hj, h => by
    rw [zcnt_s]
    by_cases e : j = k
    · subst e
      rw [zcnt_none j (fun i hi q => by have := (h i (by omega)).mp q; omega), if_pos ((h j (by omega)).mpr rfl)]
    · rw [zcnt_one k (by omega) (fun i hi => h i (by omega)), if_neg (fun q => e ((h k (by omega)).mp q).symm)]
theorem zcnt_all : ∀ k, zcnt (fun _ => true) k = k
  | 0 => rfl
  | k + 1 => by rw [zcnt_s, zcnt_all k, if_pos rfl]
/-- a one to one map of 0..m-1 into itself meets every number -/
theorem zpig : ∀ (m : Nat) (f : Nat → Nat), (∀ p, p < m → f p < m) → (∀ p q, p < m → q < m → f p = f q → p = q) → ∀ i, i < m → ∃ p, p < m ∧ f p = i
  | 0, _, _, _, i, hi => absurd hi (Nat.not_lt_zero _)
  | m + 1, f, hf, hj, i, hi => by
    have key : ∀ j, j < m → ∃ p, p < m ∧ (if f p = m then f m else f p) = j := by
      refine zpig m (fun p => if f p = m then f m else f p) (fun p hp => ?_) (fun p q hp hq e => ?_)
      · have h1 := hf p (by omega)
        have h2 := hf m (by omega)
        show (if f p = m then f m else f p) < m
        by_cases c : f p = m
        · rw [if_pos c]
          rcases Nat.lt_or_ge (f m) m with q | q
          · exact q
          · have := hj p m (by omega) (by omega) (by omega)
            omega
        · rw [if_neg c]; omega
      · have e : (if f p = m then f m else f p) = (if f q = m then f m else f q) := e
        by_cases c : f p = m
        · by_cases d : f q = m
          · exact hj p q (by omega) (by omega) (by omega)
          · rw [if_pos c, if_neg d] at e
            have := hj m q (by omega) (by omega) e
            omega
        · by_cases d : f q = m
          · rw [if_neg c, if_pos d] at e
            have := hj p m (by omega) (by omega) e
            omega
          · rw [if_neg c, if_neg d] at e
            exact hj p q (by omega) (by omega) e
    by_cases hm : f m = i
    · exact ⟨m, by omega, hm⟩
    · by_cases him : i = m
      · have h2 := hf m (by omega)
        obtain ⟨p, hp, e⟩ := key (f m) (by omega)
        by_cases c : f p = m
        · exact ⟨p, by omega, by omega⟩
        · rw [if_neg c] at e
          have := hj p m (by omega) (by omega) e
          omega
      · obtain ⟨p, hp, e⟩ := key i (by omega)
        by_cases c : f p = m
        · rw [if_pos c] at e
          exact absurd e hm
        · rw [if_neg c] at e
          exact ⟨p, by omega, e⟩
/-- the weight of a place -/
def zwt (n : Nat) (g : Nat → Nat) (p : Nat) : Nat := if p < n then g p + 1 else 0
/-- the first f weights from p on as a number -/
def zV (n : Nat) (g : Nat → Nat) : Nat → Nat → Nat
  | 0, _ => 0
  | f + 1, p => zwt n g p * 6 ^ f + zV n g f (p + 1)
theorem zV_s (n : Nat) (g : Nat → Nat) (f p : Nat) : zV n g (f + 1) p = zwt n g p * 6 ^ f + zV n g f (p + 1) := rfl
theorem zwt_in {n : Nat} {g : Nat → Nat} {p : Nat} (h : p < n) : zwt n g p = g p + 1 := if_pos h
theorem zwt_out {n : Nat} {g : Nat → Nat} {p : Nat} (h : n ≤ p) : zwt n g p = 0 := if_neg (Nat.not_lt.mpr h)
theorem zwt_le {n : Nat} {g : Nat → Nat} (hg : ∀ i, g i ≤ 4) (p : Nat) : zwt n g p ≤ 5 := by
  have := hg p
  unfold zwt
  split <;> omega
theorem zmul_s {u v x : Nat} (h : u < v) : u * x + x ≤ v * x := by
  rw [← Nat.succ_mul]
  exact Nat.mul_le_mul_right x h
theorem zdig_lt {u v x a b : Nat} (ha : a < x) (hb : b < x) : u * x + a < v * x + b ↔ u < v ∨ (u = v ∧ a < b) := by
  rcases Nat.lt_trichotomy u v with q | q | q
  · have h := zmul_s (x := x) q
    constructor
    · intro _; exact Or.inl q
    · intro _; omega
  · subst q
    constructor
    · intro h; exact Or.inr ⟨rfl, by omega⟩
    · intro h
      rcases h with h | h <;> omega
  · have h := zmul_s (x := x) q
    constructor
    · intro h2; omega
    · intro h2
      rcases h2 with h2 | h2 <;> omega
theorem zdig_eq {u v x a b : Nat} (ha : a < x) (hb : b < x) (h : u * x + a = v * x + b) : u = v ∧ a = b := by
  rcases Nat.lt_trichotomy u v with q | q | q
  · have h2 := zmul_s (x := x) q
    omega
  · subst q
    exact ⟨rfl, by omega⟩
  · have h2 := zmul_s (x := x) q
    omega
theorem zV_lt {n : Nat} {g : Nat → Nat} (hg : ∀ i, g i ≤ 4) : ∀ f p, zV n g f p < 6 ^ f
  | 0, p => by simp [zV]
  | f + 1, p => by
    have h1 := zV_lt hg f (p + 1) (n := n)
    have h2 : zwt n g p < 6 := by have := zwt_le (n := n) hg p; omega
    have h3 := zmul_s (x := 6 ^ f) h2
    rw [zV_s, Nat.pow_succ, Nat.mul_comm (6 ^ f) 6]
    omega
theorem zV_out {n : Nat} {g : Nat → Nat} : ∀ f p, n ≤ p → zV n g f p = 0
  | 0, p, _ => rfl
  | f + 1, p, h => by rw [zV_s, zwt_out h, zV_out f (p + 1) (by omega)]; simp
theorem zV_snoc {n : Nat} {g : Nat → Nat} : ∀ f p, zV n g (f + 1) p = 6 * zV n g f p + zwt n g (p + f)
  | 0, p => by simp [zV]
  | f + 1, p => by
    rw [zV_s, zV_snoc f (p + 1), zV_s n g f p, Nat.pow_succ, Nat.mul_add, show p + 1 + f = p + (f + 1) by omega]
    rw [← Nat.mul_assoc, Nat.mul_comm (zwt n g p * 6 ^ f) 6]
    omega
theorem zV_digits {n : Nat} {g : Nat → Nat} (hg : ∀ i, g i ≤ 4) : ∀ f p q, zV n g f p = zV n g f q → ∀ k, k < f → zwt n g (p + k) = zwt n g (q + k)
  | 0, _, _, _, k, hk => absurd hk (Nat.not_lt_zero _)
  | f + 1, p, q, h, k, hk => by
    rw [zV_s, zV_s] at h
    obtain ⟨h1, h2⟩ := zdig_eq (zV_lt hg f (p + 1)) (zV_lt hg f (q + 1)) h
    cases k with
    | zero => exact h1
    | succ k =>
      have h3 := zV_digits hg f (p + 1) (q + 1) h2 k (by omega)
      rw [show p + (k + 1) = p + 1 + k by omega, show q + (k + 1) = q + 1 + k by omega]
      exact h3
/-- the reference's comparison, f steps of it -/
def zsl (n : Nat) (g : Nat → Nat) : Nat → Nat → Nat → Bool
  | 0, _, _ => false
  | f + 1, p, q => if zwt n g p = zwt n g q then (if zwt n g p = 0 then false else zsl n g f (p + 1) (q + 1)) else decide (zwt n g p < zwt n g q)
theorem zsl_iff {n : Nat} {g : Nat → Nat} (hg : ∀ i, g i ≤ 4) : ∀ f p q, zsl n g f p q = true ↔ zV n g f p < zV n g f q
  | 0, p, q => by simp [zsl, zV]
  | f + 1, p, q => by
    rw [zV_s, zV_s, zdig_lt (zV_lt hg f (p + 1)) (zV_lt hg f (q + 1))]
    by_cases e : zwt n g p = zwt n g q
    · by_cases z : zwt n g p = 0
      · have hp : n ≤ p := by
          rcases Nat.lt_or_ge p n with c | c
          · rw [zwt_in c] at z; omega
          · exact c
        have hq : n ≤ q := by
          rcases Nat.lt_or_ge q n with c | c
          · rw [e, zwt_in c] at z; omega
          · exact c
        rw [zV_out f (p + 1) (by omega), zV_out f (q + 1) (by omega)]
        simp only [zsl, if_pos e, if_pos z]
        constructor
        · intro h; cases h
        · intro h; omega
      · simp only [zsl, if_pos e, if_neg z]
        rw [zsl_iff hg f (p + 1) (q + 1)]
        constructor
        · intro h; exact Or.inr ⟨e, h⟩
        · intro h; omega
    · simp only [zsl, if_neg e, decide_eq_true_eq]
      constructor
      · intro h; exact Or.inl h
      · intro h; omega
/-- the key of a suffix -/
theorem zkey_ex (n : Nat) (g : Nat → Nat) : ∃ f : Nat → Nat, f = zV n g 97 := ⟨_, rfl⟩
noncomputable def zkey (n : Nat) (g : Nat → Nat) : Nat → Nat := Classical.choose (zkey_ex n g)
theorem zkey_eq (n : Nat) (g : Nat → Nat) (p : Nat) : zkey n g p = zV n g 97 p := congrFun (Classical.choose_spec (zkey_ex n g)) p
theorem zkey_inj {n : Nat} {g : Nat → Nat} (hg : ∀ i, g i ≤ 4) (hn : n ≤ 96) {p q : Nat} (hp : p ≤ n) (hq : q ≤ n) (h : zkey n g p = zkey n g q) : p = q := by
  have hd := zV_digits hg 97 p q (by rw [← zkey_eq, ← zkey_eq]; exact h)
  rcases Nat.lt_trichotomy p q with c | c | c
  · have h1 := hd (n - q) (by omega)
    rw [zwt_in (show p + (n - q) < n by omega), zwt_out (show n ≤ q + (n - q) by omega)] at h1
    omega
  · exact c
  · have h1 := hd (n - p) (by omega)
    rw [zwt_out (show n ≤ p + (n - p) by omega), zwt_in (show q + (n - p) < n by omega)] at h1
    omega
theorem zkey_n (n : Nat) (g : Nat → Nat) : zkey n g n = 0 := (zkey_eq n g n).trans (zV_out 97 n (Nat.le_refl n))
theorem zkey_pos {n : Nat} {g : Nat → Nat} {p : Nat} (hp : p < n) : 0 < zkey n g p := by
  have h1 : zkey n g p = zwt n g p * 6 ^ 96 + zV n g 96 (p + 1) := (zkey_eq n g p).trans (zV_s n g 96 p)
  rw [h1, zwt_in hp]
  have : 0 < (g p + 1) * 6 ^ 96 := Nat.mul_pos (Nat.succ_pos _) (Nat.pow_pos (by decide))
  exact Nat.lt_of_lt_of_le this (Nat.le_add_right _ _)
theorem zkey_step {n : Nat} {g : Nat → Nat} (hg : ∀ i, g i ≤ 4) (hn : n ≤ 96) {p q : Nat} (hp : p < n) (hq : q < n) : zkey n g p < zkey n g q ↔ g p < g q ∨ (g p = g q ∧ zkey n g (p + 1) < zkey n g (q + 1)) := by
  have h1 : zkey n g p = zwt n g p * 6 ^ 96 + zV n g 96 (p + 1) := (zkey_eq n g p).trans (zV_s n g 96 p)
  have h2 : zkey n g q = zwt n g q * 6 ^ 96 + zV n g 96 (q + 1) := (zkey_eq n g q).trans (zV_s n g 96 q)
  have h3 : zkey n g (p + 1) = 6 * zV n g 96 (p + 1) + zwt n g (p + 1 + 96) := (zkey_eq n g (p + 1)).trans (zV_snoc 96 (p + 1))
  have h4 : zkey n g (q + 1) = 6 * zV n g 96 (q + 1) + zwt n g (q + 1 + 96) := (zkey_eq n g (q + 1)).trans (zV_snoc 96 (q + 1))
  rw [h1, h2, zdig_lt (zV_lt hg 96 (p + 1)) (zV_lt hg 96 (q + 1)), zwt_in hp, zwt_in hq, h3, h4, zwt_out (show n ≤ p + 1 + 96 by omega), zwt_out (show n ≤ q + 1 + 96 by omega)]
  generalize zV n g 96 (p + 1) = x
  generalize zV n g 96 (q + 1) = y
  omega
/-- how many suffixes from a on are less than that of q -/
noncomputable def zB (n : Nat) (g : Nat → Nat) (a q : Nat) : Nat := zcnt (fun r => decide (a ≤ r ∧ zkey n g r < zkey n g q)) (n + 1)
theorem zB_lt {n : Nat} {g : Nat → Nat} {a x y : Nat} (hx : x ≤ n) (ha : a ≤ x) (h : zkey n g x < zkey n g y) : zB n g a x < zB n g a y := by
  refine zcnt_lt (j := x) (n + 1) (by omega) (fun i hi q => ?_) ?_ ?_
  · simp only [decide_eq_true_eq] at q ⊢
    omega
  · simp only [decide_eq_true_eq]
    omega
  · simp only [decide_eq_true_eq]
    omega
theorem zB_iff {n : Nat} {g : Nat → Nat} {a x y : Nat} (hx : x ≤ n) (ha : a ≤ x) : zB n g a x < zB n g a y ↔ zkey n g x < zkey n g y := by
  constructor
  · intro h
    rcases Nat.lt_or_ge (zkey n g x) (zkey n g y) with c | c
    · exact c
    · have : zB n g a y ≤ zB n g a x := by
        refine zcnt_imp (n + 1) (fun i hi q => ?_)
        simp only [decide_eq_true_eq] at q ⊢
        omega
      omega
  · exact zB_lt hx ha
theorem zB_step {n : Nat} {g : Nat → Nat} {a q : Nat} (ha : a ≤ n) : zB n g a q = zB n g (a + 1) q + (if zkey n g a < zkey n g q then 1 else 0) := by
  have h : zB n g a q = zB n g (a + 1) q + zcnt (fun r => decide (r = a ∧ zkey n g a < zkey n g q)) (n + 1) := by
    refine zcnt_add (n + 1) (fun i hi => ?_)
    simp only [decide_eq_true_eq]
    by_cases e : i = a
    · subst e
      by_cases c : zkey n g i < zkey n g q
      · rw [if_pos ⟨Nat.le_refl _, c⟩, if_neg (by omega), if_pos ⟨rfl, c⟩]
      · rw [if_neg (by omega), if_neg (by omega), if_neg (by omega)]
    · by_cases c : a ≤ i ∧ zkey n g i < zkey n g q
      · rw [if_pos c, if_pos (by omega), if_neg (by omega)]
      · rw [if_neg c, if_neg (by omega), if_neg (by omega)]
  rw [h]
  by_cases c : zkey n g a < zkey n g q
  · rw [if_pos c, zcnt_one (j := a) (n + 1) (by omega) (fun i hi => by simp only [decide_eq_true_eq]; omega)]
  · rw [if_neg c, zcnt_none (n + 1) (fun i hi => by simp only [decide_eq_true_eq]; omega)]
theorem zB_n (n : Nat) (g : Nat → Nat) (a : Nat) : zB n g a n = 0 := by
  refine zcnt_none (n + 1) (fun i hi => ?_)
  simp only [decide_eq_true_eq, zkey_n]
  omega
theorem zB_le {n : Nat} {g : Nat → Nat} {a q : Nat} (hq : q ≤ n) : zB n g a q ≤ n := by
  have h : zB n g a q < zcnt (fun _ => true) (n + 1) := by
    refine zcnt_lt (j := q) (n + 1) (by omega) (fun _ _ _ => rfl) ?_ rfl
    simp only [decide_eq_true_eq]
    omega
  rw [zcnt_all] at h
  omega
/-- the row of a suffix -/
noncomputable def zbef (n : Nat) (g : Nat → Nat) (p : Nat) : Nat := zB n g 0 p
theorem zbef_inj {n : Nat} {g : Nat → Nat} (hg : ∀ i, g i ≤ 4) (hn : n ≤ 96) {p q : Nat} (hp : p ≤ n) (hq : q ≤ n) (h : zbef n g p = zbef n g q) : p = q := by
  rcases Nat.lt_trichotomy (zkey n g p) (zkey n g q) with c | c | c
  · have := zB_lt (a := 0) hp (Nat.zero_le _) c
    unfold zbef at h
    omega
  · exact zkey_inj hg hn hp hq c
  · have := zB_lt (a := 0) hq (Nat.zero_le _) c
    unfold zbef at h
    omega
theorem zbef_le {n : Nat} {g : Nat → Nat} {p : Nat} (hp : p ≤ n) : zbef n g p ≤ n := zB_le hp
theorem zbef_sur {n : Nat} {g : Nat → Nat} (hg : ∀ i, g i ≤ 4) (hn : n ≤ 96) {i : Nat} (hi : i ≤ n) : ∃ p, p ≤ n ∧ zbef n g p = i := by
  obtain ⟨p, h1, h2⟩ := zpig (n + 1) (zbef n g) (fun p hp => by have := zbef_le (n := n) (g := g) (p := p) (by omega); omega) (fun p q hp hq e => zbef_inj hg hn (by omega) (by omega) e) i (by omega)
  exact ⟨p, by omega, h2⟩
/-- an array that holds the places in the order of their suffixes -/
def zord (n : Nat) (g : Nat → Nat) (o : Nat → Nat) : Prop := ∀ p, p ≤ n → o (zbef n g p) = p
theorem zord_at {n : Nat} {g o : Nat → Nat} (hg : ∀ i, g i ≤ 4) (hn : n ≤ 96) (ho : zord n g o) {i : Nat} (hi : i ≤ n) : o i ≤ n ∧ zbef n g (o i) = i := by
  obtain ⟨p, h1, h2⟩ := zbef_sur hg hn hi
  have h3 := ho p h1
  rw [h2] at h3
  rw [h3]
  exact ⟨h1, h2⟩
theorem zwt_zero {n : Nat} {g : Nat → Nat} {p : Nat} (h : zwt n g p = 0) : n ≤ p := by
  rcases Nat.lt_or_ge p n with c | c
  · rw [zwt_in c] at h; omega
  · exact c
/-- the row of a place, counted in two steps -/
theorem zrow {n : Nat} {g : Nat → Nat} {p : Nat} (hp : p < n) : 1 + zcnt (fun q => decide (p + 1 ≤ q ∧ zkey n g q < zkey n g p)) n = zB n g p p := by
  have h0 := zkey_pos (g := g) hp
  unfold zB
  rw [zcnt_t (k := n) (by simp only [decide_eq_true_eq, zkey_n]; omega), Nat.add_comm]
  congr 1
  refine zcnt_congr n (fun i hi => ?_)
  by_cases e : i = p
  · subst e
    rw [decide_eq_false (by omega), decide_eq_false (by omega)]
  · have : (p + 1 ≤ i ∧ zkey n g i < zkey n g p) ↔ (p ≤ i ∧ zkey n g i < zkey n g p) := by omega
    exact decide_eq_decide.mpr this
/-- the symbol before a place -/
def zsb (g : Nat → Nat) (p : Nat) : Nat := if p = 0 then 5 else g (p - 1)
/-- what row(i) answers -/
def zrowR (n : Nat) (g : Nat → Nat) (i r : Int32) : Prop := (∃ p, p ≤ n ∧ i = nI (zbef n g p) ∧ r = nI p) ∨ ((∀ p, p ≤ n → ¬ i = nI (zbef n g p)) ∧ r = -1)
theorem zrowR_one {n : Nat} {g : Nat → Nat} (hg : ∀ i, g i ≤ 4) (hn : n ≤ 96) {i r r' : Int32} (h : zrowR n g i r) (h' : zrowR n g i r') : r = r' := by
  rcases h with ⟨p, h1, h2, h3⟩ | ⟨h1, h2⟩
  · rcases h' with ⟨q, g1, g2, g3⟩ | ⟨g1, g2⟩
    · have e1 := zbef_le (g := g) h1
      have e2 := zbef_le (g := g) g1
      have e : zbef n g p = zbef n g q := (nI_eq (by omega) (by omega)).mp (h2.symm.trans g2)
      rw [h3, g3, zbef_inj hg hn h1 g1 e]
    · exact absurd h2 (g1 p h1)
  · rcases h' with ⟨q, g1, g2, g3⟩ | ⟨g1, g2⟩
    · exact absurd g2 (h1 q g1)
    · rw [h2, g2]
/-- what last(i) answers -/
def zlastR (n : Nat) (g : Nat → Nat) (i r : Int32) : Prop := (∃ p, p ≤ n ∧ i = nI (zbef n g p) ∧ r = nI (zsb g p)) ∨ ((∀ p, p ≤ n → ¬ i = nI (zbef n g p)) ∧ r = -1)
theorem zlastR_one {n : Nat} {g : Nat → Nat} (hg : ∀ i, g i ≤ 4) (hn : n ≤ 96) {i r r' : Int32} (h : zlastR n g i r) (h' : zlastR n g i r') : r = r' := by
  rcases h with ⟨p, h1, h2, h3⟩ | ⟨h1, h2⟩
  · rcases h' with ⟨q, g1, g2, g3⟩ | ⟨g1, g2⟩
    · have e1 := zbef_le (g := g) h1
      have e2 := zbef_le (g := g) g1
      have e : zbef n g p = zbef n g q := (nI_eq (by omega) (by omega)).mp (h2.symm.trans g2)
      rw [h3, g3, zbef_inj hg hn h1 g1 e]
    · exact absurd h2 (g1 p h1)
  · rcases h' with ⟨q, g1, g2, g3⟩ | ⟨g1, g2⟩
    · exact absurd g2 (h1 q g1)
    · rw [h2, g2]
