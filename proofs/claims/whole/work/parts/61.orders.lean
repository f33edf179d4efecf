/-! ===== orders: the mathematics ===== -/
theorem sub_z : ∀ s, s < 128 → ∀ a, a < 128 → (nI s &&& (nI a ^^^ (-1)) = 0 ↔ s &&& a = s) := by decide +kernel
section OM
variable {N : Nat} {S : Nat → Bool} {e e' : Nat → Nat} {d : Nat}
/-- walks know the ease of stands alone -/
theorem Wk.congr (h0 : S 0 = true) (h : ∀ p, S p = true → e p = e' p) {L p : Nat} (w : Wk N S e d 0 L p) : Wk N S e' d 0 L p := by
  refine (Wk.ind (P := fun L p => Wk N S e' d 0 L p ∧ S p = true) ⟨.z, h0⟩ (fun L p q w g ih => ?_) w).1
  refine ⟨ih.1.s ⟨g.1, g.2.1, g.2.2.1, ?_⟩, g.2.2.1⟩
  unfold near
  rw [← h p ih.2, ← h q g.2.2.1]
  exact g.2.2.2
theorem rea.congr (h0 : S 0 = true) (h : ∀ p, S p = true → e p = e' p) {p : Nat} : rea N S e d p ↔ rea N S e' d p :=
  ⟨fun ⟨L, w⟩ => ⟨L, w.congr h0 h⟩, fun ⟨L, w⟩ => ⟨L, w.congr h0 fun p hp => (h p hp).symm⟩⟩
end OM
theorem sm_congr {f g : Nat → Nat} : ∀ n, (∀ i, i < n → f i = g i) → sm f n = sm g n := by
  intro n
  induction n with
  | zero => intro _; rfl
  | succ n ih => intro h; unfold sm; rw [ih (fun i hi => h i (by omega)), h n (by omega)]
theorem sm_max {f : Nat → Nat} {B : Nat} : ∀ n, (∀ i, i < n → f i ≤ B) → sm f n ≤ n * B := by
  intro n
  induction n with
  | zero => intro _; rw [Nat.zero_mul]; exact Nat.le_refl _
  | succ n ih => intro h; have := ih (fun i hi => h i (by omega)); have := h n (by omega); unfold sm; rw [Nat.succ_mul]; omega
theorem sm_pos {f : Nat → Nat} : ∀ n, 0 < sm f n → ∃ i, i < n ∧ 0 < f i := by
  intro n
  induction n with
  | zero => intro h; exact absurd h (Nat.lt_irrefl 0)
  | succ n ih =>
    intro h
    unfold sm at h
    by_cases y : 0 < f n
    · exact ⟨n, by omega, y⟩
    · obtain ⟨i, h1, h2⟩ := ih (by omega)
      exact ⟨i, by omega, h2⟩
theorem or_bit (s c i : Nat) : (s ||| 2 ^ c).testBit i = (s.testBit i || decide (c = i)) := by rw [Nat.testBit_or, Nat.testBit_two_pow]
theorem or_gt {s c : Nat} (h : s.testBit c = false) : s < s ||| 2 ^ c := by
  have h1 : s ≤ s ||| 2 ^ c := Nat.left_le_or
  have h2 : s ≠ s ||| 2 ^ c := fun z => by
    have := or_bit s c c
    rw [← z, h] at this
    simp at this
  omega
theorem or_128 {s c : Nat} (hs : s < 128) (hc : c < 7) : s ||| 2 ^ c < 128 := Nat.or_lt_two_pow (n := 7) hs (Nat.pow_lt_pow_right (by decide) hc)
def fil (σ : SG) : Nat := bits (fun c => σ 7 c != 0) (σ 0 0)
abbrev Lt (σ : SG) (s : Nat) : Nat → Nat := Lst σ (fun i => s.testBit i)
def gN (σ : SG) (d s : Nat) : Nat := grN (σ 0 0) (Sd σ (Lt σ s) (σ 0 2)) (ez σ (Lt σ s)) d
/-- near enough to be laid next -/
def nxb (σ : SG) (d s c : Nat) : Bool := (fil σ).testBit c && !s.testBit c && decide (c + 1 ≤ gN σ d s + (if kndB σ 2 c = true then 1 else 0))
def vl (σ : SG) (d : Nat) (t : Nat → Nat) (s : Nat) : Nat := if s &&& fil σ = s then (if s = fil σ then 1 else sm (fun c => if nxb σ d s c = true then t (s ||| 2 ^ c) else 0) (σ 0 0)) else 0
def wy (σ : SG) (d : Nat) : Nat → Nat → Nat
  | 0, _ => 0
  | k + 1, s => vl σ d (wy σ d k) s
/-- in how many ways one can go on -/
def Wc (σ : SG) (d s : Nat) : Nat := wy σ d 128 s
theorem nxb_f {σ : SG} {d s c : Nat} (h : nxb σ d s c = true) : (fil σ).testBit c = true ∧ s.testBit c = false ∧ c + 1 ≤ gN σ d s + (if kndB σ 2 c = true then 1 else 0) := by
  unfold nxb at h
  rw [Bool.and_eq_true, Bool.and_eq_true, decide_eq_true_iff, Bool.not_eq_true'] at h
  exact ⟨h.1.1, h.1.2, h.2⟩
theorem vl_congr {σ : SG} (hn : σ 0 0 ≤ 7) {d : Nat} {t t' : Nat → Nat} {s : Nat} (hs : s < 128) (h : ∀ k, s < k → k < 128 → t k = t' k) : vl σ d t s = vl σ d t' s := by
  unfold vl
  rw [sm_congr (σ 0 0) (fun c hc => ?_)]
  by_cases z : nxb σ d s c = true
  · rw [if_pos z, if_pos z]
    exact h _ (or_gt (nxb_f z).2.1) (or_128 hs (by omega))
  · rw [if_neg z, if_neg z]
theorem wy_st {σ : SG} (hn : σ 0 0 ≤ 7) {d : Nat} : ∀ k j s, s < 128 → 128 ≤ k + s → 128 ≤ j + s → wy σ d k s = wy σ d j s := by
  intro k
  induction k with
  | zero => intro j s h1 h2; omega
  | succ k ih =>
    intro j s h1 h2 h3
    obtain ⟨j, rfl⟩ : ∃ i, j = i + 1 := ⟨j - 1, by omega⟩
    rw [wy, wy]
    exact vl_congr hn h1 fun i h4 h5 => ih j i h5 (by omega) (by omega)
theorem Wc_eq {σ : SG} (hn : σ 0 0 ≤ 7) (d : Nat) {s : Nat} (hs : s < 128) : Wc σ d s = vl σ d (Wc σ d) s := by
  show vl σ d (wy σ d 127) s = _
  exact vl_congr hn hs fun i h4 h5 => wy_st hn 127 128 i h5 (by omega) (by omega)
theorem fil_lt {σ : SG} (hn : σ 0 0 ≤ 7) : fil σ < 128 := bits_ge hn
theorem fil_t (σ : SG) (c : Nat) : (fil σ).testBit c = (decide (c < σ 0 0) && (σ 7 c != 0)) := bits_test _ _ _
/-- how many are still to be laid -/
def lft (σ : SG) (s : Nat) : Nat := cnt (fun c => (fil σ).testBit c && !s.testBit c) (σ 0 0)
theorem sub_t {σ : SG} {s : Nat} (h : s &&& fil σ = s) {c : Nat} (hc : s.testBit c = true) : (fil σ).testBit c = true := by
  rw [← h, Nat.testBit_and, Bool.and_eq_true] at hc
  exact hc.2
theorem sub_or {σ : SG} {s c : Nat} (h : s &&& fil σ = s) (hc : (fil σ).testBit c = true) : (s ||| 2 ^ c) &&& fil σ = s ||| 2 ^ c := by
  apply Nat.eq_of_testBit_eq
  intro i
  rw [Nat.testBit_and, or_bit]
  by_cases y : c = i
  · subst y; simp [hc]
  · by_cases z : s.testBit i = true
    · simp [z, sub_t h z]
    · rw [Bool.not_eq_true] at z; simp [z, y]
theorem lft_or {σ : SG} {s c : Nat} (hf : (fil σ).testBit c = true) (hc : s.testBit c = false) : lft σ s = lft σ (s ||| 2 ^ c) + 1 := by
  have hcN : c < σ 0 0 := by rw [fil_t, Bool.and_eq_true, decide_eq_true_iff] at hf; exact hf.1
  refine cnt_flip (c := c) ?_ ?_ (fun i hi => ?_) _ hcN
  · rw [or_bit]; simp
  · rw [hf, hc]; rfl
  · rw [or_bit]; simp [Ne.symm hi]
theorem cnt_0 {p : Nat → Bool} : ∀ n, cnt p n = 0 → ∀ i, i < n → p i = false := by
  intro n
  induction n with
  | zero => intro _ i hi; omega
  | succ n ih =>
    intro h i hi
    rw [cnt] at h
    by_cases y : i = n
    · subst y
      cases q : p i with
      | false => rfl
      | true => rw [q, if_pos rfl] at h; omega
    · exact ih (by omega) i (by omega)
theorem cnt_z {p : Nat → Bool} : ∀ n, (∀ i, i < n → p i = false) → cnt p n = 0 := by
  intro n
  induction n with
  | zero => intro _; rfl
  | succ n ih => intro h; rw [cnt, ih (fun i hi => h i (by omega)), h n (by omega)]; rfl
theorem lft_0 {σ : SG} {s : Nat} (h : s &&& fil σ = s) : lft σ s = 0 ↔ s = fil σ := by
  constructor
  · intro z
    apply Nat.eq_of_testBit_eq
    intro i
    by_cases y : s.testBit i = true
    · rw [y, sub_t h y]
    · rw [Bool.not_eq_true] at y
      rw [y]
      by_cases q : (fil σ).testBit i = true
      · have hi : i < σ 0 0 := by rw [fil_t, Bool.and_eq_true, decide_eq_true_iff] at q; exact q.1
        have := cnt_0 _ z i hi
        rw [q, y] at this
        cases this
      · rw [Bool.not_eq_true] at q; exact q.symm
  · intro z
    exact cnt_z _ fun i _ => by rw [z]; cases (fil σ).testBit i <;> rfl
theorem Wc_le {σ : SG} (hn : σ 0 0 ≤ 7) (d : Nat) : ∀ k s, s < 128 → lft σ s = k → Wc σ d s ≤ 7 ^ k := by
  intro k
  induction k with
  | zero =>
    intro s hs h
    rw [Wc_eq hn d hs]
    unfold vl
    by_cases z : s &&& fil σ = s
    · rw [if_pos z, if_pos ((lft_0 z).mp h)]; exact Nat.le_refl _
    · rw [if_neg z]; exact Nat.zero_le _
  | succ k ih =>
    intro s hs h
    rw [Wc_eq hn d hs]
    unfold vl
    by_cases z : s &&& fil σ = s
    · rw [if_pos z, if_neg (fun y => by have := (lft_0 z).mpr y; omega)]
      have := sm_max (f := fun c => if nxb σ d s c = true then Wc σ d (s ||| 2 ^ c) else 0) (B := 7 ^ k) (σ 0 0) (fun c hc => by
        show (if nxb σ d s c = true then _ else _) ≤ _
        by_cases y : nxb σ d s c = true
        · rw [if_pos y]
          have hh := nxb_f y
          have := lft_or hh.1 hh.2.1
          exact ih _ (or_128 hs (by omega)) (by omega)
        · rw [if_neg y]; exact Nat.zero_le _)
      refine Nat.le_trans this ?_
      rw [Nat.pow_succ, Nat.mul_comm]
      exact Nat.mul_le_mul_left _ hn
    · rw [if_neg z]; exact Nat.zero_le _
theorem Wc_lt {σ : SG} (hn : σ 0 0 ≤ 7) (d : Nat) {s : Nat} (hs : s < 128) : Wc σ d s < 2147483648 := by
  have h1 := Wc_le hn d _ s hs rfl
  have h2 : lft σ s ≤ 7 := Nat.le_trans (cnt_le _ _) hn
  have h3 : 7 ^ lft σ s ≤ 7 ^ 7 := Nat.pow_le_pow_right (by decide) h2
  have h4 : (7 : Nat) ^ 7 < 2147483648 := by decide
  omega
/-- whether a cell is the next of an order -/
def gob (σ : SG) (d s c : Nat) : Bool := nxb σ d s c && decide (0 < Wc σ d (s ||| 2 ^ c))
/-- the first such from c on, m cells ahead -/
def fsc (σ : SG) (d s : Nat) : Nat → Nat → Nat
  | 0, c => c
  | m + 1, c => if gob σ d s c = true then c else fsc σ d s m (c + 1)
def fst0 (σ : SG) (d s : Nat) : Nat := fsc σ d s (σ 0 0) 0
theorem fsc_spec (σ : SG) (d s : Nat) : ∀ m c, c ≤ fsc σ d s m c ∧ fsc σ d s m c ≤ c + m ∧ (fsc σ d s m c < c + m → gob σ d s (fsc σ d s m c) = true) ∧ ∀ i, c ≤ i → i < fsc σ d s m c → gob σ d s i = false := by
  intro m
  induction m with
  | zero => intro c; exact ⟨Nat.le_refl _, Nat.le_refl _, fun h => by rw [fsc] at h; omega, fun i h1 h2 => by rw [fsc] at h2; omega⟩
  | succ m ih =>
    intro c
    rw [fsc]
    by_cases z : gob σ d s c = true
    · rw [if_pos z]
      exact ⟨Nat.le_refl _, by omega, fun _ => z, fun i h1 h2 => by omega⟩
    · rw [if_neg z]
      obtain ⟨a, b, e, g⟩ := ih (c + 1)
      refine ⟨by omega, by omega, fun h => e (by omega), fun i h1 h2 => ?_⟩
      by_cases y : i = c
      · rw [y]; exact Bool.eq_false_iff.mpr z
      · exact g i (by omega) h2
theorem fst_lt {σ : SG} (hn : σ 0 0 ≤ 7) {d s : Nat} (hs : s < 128) (hsub : s &&& fil σ = s) (hne : s ≠ fil σ) (hW : 0 < Wc σ d s) : fst0 σ d s < σ 0 0 ∧ gob σ d s (fst0 σ d s) = true := by
  rw [Wc_eq hn d hs] at hW
  unfold vl at hW
  rw [if_pos hsub, if_neg hne] at hW
  obtain ⟨c, hc, hp⟩ := sm_pos _ hW
  have hg : gob σ d s c = true := by
    unfold gob
    by_cases y : nxb σ d s c = true
    · rw [if_pos y] at hp
      rw [y, decide_eq_true hp]; rfl
    · rw [if_neg y] at hp; omega
  obtain ⟨a, b, e, g⟩ := fsc_spec σ d s (σ 0 0) 0
  have h1 : fst0 σ d s ≤ c := by
    apply Nat.le_of_not_lt
    intro z
    have := g c (Nat.zero_le _) z
    rw [hg] at this
    cases this
  have h2 : fst0 σ d s < σ 0 0 := by omega
  exact ⟨h2, e (by rw [Nat.zero_add]; exact h2)⟩
theorem fst_all {σ : SG} (d : Nat) : fst0 σ d (fil σ) = σ 0 0 := by
  obtain ⟨a, b, e, g⟩ := fsc_spec σ d (fil σ) (σ 0 0) 0
  apply Classical.byContradiction
  intro z
  have h2 : fst0 σ d (fil σ) < 0 + σ 0 0 := by
    have : fst0 σ d (fil σ) ≤ 0 + σ 0 0 := b
    omega
  have := e h2
  unfold gob at this
  rw [Bool.and_eq_true] at this
  have h3 := nxb_f this.1
  rw [h3.1] at h3
  exact absurd h3.2.1 (by decide)
theorem gob_or {σ : SG} {d s c : Nat} (hsub : s &&& fil σ = s) (h : gob σ d s c = true) : (s ||| 2 ^ c) &&& fil σ = s ||| 2 ^ c ∧ 0 < Wc σ d (s ||| 2 ^ c) ∧ lft σ s = lft σ (s ||| 2 ^ c) + 1 := by
  unfold gob at h
  rw [Bool.and_eq_true, decide_eq_true_iff] at h
  have h3 := nxb_f h.1
  exact ⟨sub_or hsub h3.1, h.2, lft_or h3.1 h3.2.1⟩
/-- the cell that comes behind j others -/
def an (σ : SG) (d : Nat) : Nat → Nat → Nat
  | 0, s => fst0 σ d s
  | j + 1, s => an σ d j (s ||| 2 ^ fst0 σ d s)
