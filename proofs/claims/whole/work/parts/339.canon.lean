/-- the least i below n with p, or n -/
noncomputable def findN (p : Nat → Prop) : Nat → Nat
  | 0 => 0
  | n + 1 => @ite Nat (findN p n < n) (Classical.propDecidable _) (findN p n) (@ite Nat (p n) (Classical.propDecidable _) n (n + 1))
theorem findN_le (p : Nat → Prop) : ∀ n, findN p n ≤ n
  | 0 => Nat.le_refl 0
  | n + 1 => by
    have a := findN_le p n
    unfold findN
    by_cases c : findN p n < n
    · rw [if_pos c]; omega
    · rw [if_neg c]
      by_cases d : p n
      · rw [if_pos d]; omega
      · rw [if_neg d]; omega
theorem findN_spec (p : Nat → Prop) (n : Nat) : (findN p n < n → p (findN p n)) ∧ ∀ i, i < findN p n → ¬ p i := by
  induction n with
  | zero => exact ⟨fun h => absurd h (Nat.not_lt_zero _), fun i h => absurd h (Nat.not_lt_zero _)⟩
  | succ n ih =>
    have a := findN_le p n
    unfold findN
    by_cases c : findN p n < n
    · rw [if_pos c]
      exact ⟨fun _ => ih.1 c, ih.2⟩
    · rw [if_neg c]
      have e : findN p n = n := by omega
      rw [e] at ih
      by_cases d : p n
      · rw [if_pos d]
        exact ⟨fun _ => d, ih.2⟩
      · rw [if_neg d]
        refine ⟨fun h => absurd h (Nat.lt_irrefl _), fun i hi => ?_⟩
        by_cases z : i = n
        · rw [z]; exact d
        · exact ih.2 i (by omega)
theorem findN_eq {p : Nat → Prop} {n i : Nat} (hi : i < n) (hp : p i) (hl : ∀ j, j < i → ¬ p j) : findN p n = i := by
  have a := findN_spec p n
  have b := findN_le p n
  rcases Nat.lt_trichotomy (findN p n) i with q | q | q
  · exact absurd (a.1 (by omega)) (hl _ q)
  · exact q
  · exact absurd hp (a.2 i q)
theorem findN_none {p : Nat → Prop} {n : Nat} (hl : ∀ j, j < n → ¬ p j) : findN p n = n := by
  have a := findN_spec p n
  have b := findN_le p n
  rcases Nat.lt_or_ge (findN p n) n with q | q
  · exact absurd (a.1 q) (hl _ q)
  · omega
theorem findN_congr {p q : Nat → Prop} {n : Nat} (h : ∀ i, i < n → (p i ↔ q i)) : findN p n = findN q n := by
  have a := findN_spec q n
  have b := findN_le q n
  rcases Nat.lt_or_ge (findN q n) n with z | z
  · exact findN_eq z ((h _ z).2 (a.1 z)) (fun j hj => fun y => a.2 j hj ((h j (by omega)).1 y))
  · have e : findN q n = n := by omega
    rw [e]
    refine findN_none (fun j hj y => a.2 j (by omega) ((h j hj).1 y))
/-- f numbers the kinds of R on 0 .. n - 1 by their first members, m kinds -/
def Canon (n m : Nat) (f : Nat → Nat) (R : Nat → Nat → Prop) : Prop := (∀ s t, s < n → t < n → (f s = f t ↔ R s t)) ∧ (∀ s, s < n → f s < m) ∧ (∀ s, s < n → ∀ k, k < f s → ∃ t, t < s ∧ f t = k) ∧ ∀ k, k < m → ∃ s, s < n ∧ f s = k
theorem canon_eq {n m m2 : Nat} {f f2 : Nat → Nat} {R : Nat → Nat → Prop} (h : Canon n m f R) (h2 : Canon n m2 f2 R) : ∀ s, s < n → f s = f2 s := by
  have key : ∀ d s, s < d → s < n → f s = f2 s := by
    intro d
    induction d with
    | zero => intro s hs; exact absurd hs (Nat.not_lt_zero s)
    | succ d ih =>
      intro s hs hn
      by_cases c : ∃ t, t < s ∧ R s t
      · obtain ⟨t, t1, t2⟩ := c
        rw [(h.1 s t hn (by omega)).2 t2, (h2.1 s t hn (by omega)).2 t2]
        exact ih t (by omega) (by omega)
      · rcases Nat.lt_trichotomy (f s) (f2 s) with q | q | q
        · obtain ⟨t, t1, t2⟩ := h2.2.2.1 s hn _ q
          rw [← ih t (by omega) (by omega)] at t2
          exact absurd ⟨t, t1, (h.1 s t hn (by omega)).1 t2.symm⟩ c
        · exact q
        · obtain ⟨t, t1, t2⟩ := h.2.2.1 s hn _ q
          rw [ih t (by omega) (by omega)] at t2
          exact absurd ⟨t, t1, (h2.1 s t hn (by omega)).1 t2.symm⟩ c
  exact fun s hs => key (s + 1) s (by omega) hs
theorem canon_many {n m m2 : Nat} {f f2 : Nat → Nat} {R : Nat → Nat → Prop} (h : Canon n m f R) (h2 : Canon n m2 f2 R) : m = m2 := by
  have e := canon_eq h h2
  rcases Nat.lt_trichotomy m m2 with q | q | q
  · obtain ⟨s, s1, s2⟩ := h2.2.2.2 m q
    have := h.2.1 s s1
    rw [e s s1] at this
    omega
  · exact q
  · obtain ⟨s, s1, s2⟩ := h.2.2.2 m2 q
    have := h2.2.1 s s1
    rw [← e s s1] at this
    omega
theorem canon_le {n m : Nat} {f : Nat → Nat} {R : Nat → Nat → Prop} (h : Canon n m f R) : m ≤ n := by
  have key : ∀ k, k < m → ∃ s, s < n ∧ f s = k := h.2.2.2
  refine pig n m (fun k => findN (fun s => f s = k) n) (fun k hk => ?_) (fun i j hi hj e => ?_)
  · obtain ⟨s, s1, s2⟩ := key k hk
    have a := findN_spec (fun s => f s = k) n
    have b := findN_le (fun s => f s = k) n
    rcases Nat.lt_or_ge (findN (fun s => f s = k) n) n with q | q
    · exact q
    · exact absurd s2 (a.2 s (by omega))
  · have e : findN (fun s => f s = i) n = findN (fun s => f s = j) n := e
    have gi : ∀ k, k < m → f (findN (fun s => f s = k) n) = k := by
      intro k hk
      obtain ⟨s, s1, s2⟩ := key k hk
      have a := findN_spec (fun s => f s = k) n
      rcases Nat.lt_or_ge (findN (fun s => f s = k) n) n with q | q
      · exact a.1 q
      · exact absurd s2 (a.2 s (by omega))
    rw [← gi i hi, e, gi j hj]
/-- first of its kind -/
def fst1 (f : Nat → Nat) (s : Nat) : Prop := ∀ t, t < s → f t ≠ f s
/-- how many kinds: as many as first members -/
theorem canon_cnt {R : Nat → Nat → Prop} {f : Nat → Nat} : ∀ n m, Canon n m f R → pops (fst1 f) n = m := by
  intro n
  induction n with
  | zero =>
    intro m h
    rcases Nat.eq_zero_or_pos m with q | q
    · rw [q]; rfl
    · obtain ⟨s, s1, _⟩ := h.2.2.2 0 q
      exact absurd s1 (Nat.not_lt_zero s)
  | succ n ih =>
    intro m h
    show pops (fst1 f) n + bI (fst1 f n) = m
    by_cases c : fst1 f n
    · rw [bI_t c]
      have hm : f n + 1 = m := by
        have a := h.2.1 n (by omega)
        rcases Nat.lt_or_ge (f n + 1) m with q | q
        · exfalso
          obtain ⟨s, s1, s2⟩ := h.2.2.2 (f n + 1) q
          have : s ≠ n := fun z => by rw [z] at s2; omega
          obtain ⟨t, t1, t2⟩ := h.2.2.1 s s1 (f n) (by omega)
          exact c t (by omega) t2
        · omega
      rw [ih (f n) ⟨fun s t hs ht => h.1 s t (by omega) (by omega), fun s hs => ?_, fun s hs => h.2.2.1 s (by omega), fun k hk => ?_⟩, hm]
      · rcases Nat.lt_or_ge (f s) (f n) with q | q
        · exact q
        · exfalso
          rcases Nat.eq_or_lt_of_le q with z | z
          · exact c s hs z.symm
          · obtain ⟨t, t1, t2⟩ := h.2.2.1 s (by omega) (f n) z
            exact c t (by omega) t2
      · obtain ⟨t, t1, t2⟩ := h.2.2.1 n (by omega) k hk
        exact ⟨t, t1, t2⟩
    · rw [bI_f c, Nat.add_zero]
      refine ih m ⟨fun s t hs ht => h.1 s t (by omega) (by omega), fun s hs => h.2.1 s (by omega), fun s hs => h.2.2.1 s (by omega), fun k hk => ?_⟩
      obtain ⟨s, s1, s2⟩ := h.2.2.2 k hk
      by_cases z : s = n
      · have : ∃ t, t < n ∧ f t = f n := by
          by_cases y : ∃ t, t < n ∧ f t = f n
          · exact y
          · exact absurd (fun t ht e => y ⟨t, ht, e⟩) c
        obtain ⟨t, t1, t2⟩ := this
        exact ⟨t, t1, by rw [t2, ← z]; exact s2⟩
      · exact ⟨s, by omega, s2⟩
theorem pops_mono {f f2 : Nat → Prop} : ∀ n, (∀ a, a < n → f a → f2 a) → pops f n ≤ pops f2 n := by
  intro n
  induction n with
  | zero => intro _; exact Nat.le_refl 0
  | succ n ih =>
    intro h
    have a := ih (fun a ha => h a (by omega))
    show pops f n + bI (f n) ≤ pops f2 n + bI (f2 n)
    by_cases c : f n
    · rw [bI_t c, bI_t (h n (by omega) c)]; omega
    · rw [bI_f c]; omega
theorem pops_same {f f2 : Nat → Prop} : ∀ n, (∀ a, a < n → f a → f2 a) → pops f n = pops f2 n → ∀ a, a < n → f2 a → f a := by
  intro n
  induction n with
  | zero => intro _ _ a ha; exact absurd ha (Nat.not_lt_zero a)
  | succ n ih =>
    intro h e a ha h2
    have e : pops f n + bI (f n) = pops f2 n + bI (f2 n) := e
    have b := pops_mono n (fun a ha => h a (show a < n + 1 by omega))
    have c : bI (f n) ≤ bI (f2 n) := by
      by_cases c : f n
      · rw [bI_t c, bI_t (h n (by omega) c)]; omega
      · rw [bI_f c]; omega
    by_cases z : a = n
    · subst z
      rw [bI_t h2] at e c
      have : bI (f a) = 1 := by omega
      exact bI_one.1 this
    · exact ih (fun a ha => h a (by omega)) (by omega) a (by omega) h2
/-- a finer numbering with as many kinds is the same -/
theorem canon_fine {n m : Nat} {f f2 : Nat → Nat} {R R2 : Nat → Nat → Prop} (h : Canon n m f R) (h2 : Canon n m f2 R2) (hf : ∀ s t, s < n → t < n → R2 s t → R s t) : ∀ s t, s < n → t < n → R s t → R2 s t := by
  have hs : ∀ a, a < n → fst1 f a → fst1 f2 a := by
    intro a ha c t ht e
    exact c t ht ((h.1 t a (by omega) ha).2 (hf t a (by omega) ha ((h2.1 t a (by omega) ha).1 e)))
  have e := pops_same n hs (by rw [canon_cnt n m h, canon_cnt n m h2])
  have fir : ∀ s, s < n → ∃ u, u ≤ s ∧ f2 u = f2 s ∧ fst1 f2 u := by
    intro s hs
    have a := findN_spec (fun t => f2 t = f2 s) (s + 1)
    have b := findN_le (fun t => f2 t = f2 s) (s + 1)
    have c : findN (fun t => f2 t = f2 s) (s + 1) < s + 1 := by
      rcases Nat.lt_or_ge (findN (fun t => f2 t = f2 s) (s + 1)) (s + 1) with q | q
      · exact q
      · exact absurd rfl (a.2 s (by omega))
    refine ⟨_, by omega, a.1 c, fun t ht z => a.2 t ht ?_⟩
    rw [z]; exact a.1 c
  intro s t hs2 ht2 r
  obtain ⟨u, u1, u2, u3⟩ := fir s hs2
  obtain ⟨w, w1, w2, w3⟩ := fir t ht2
  have f1 : f u = f s := (h.1 u s (by omega) hs2).2 (hf u s (by omega) hs2 ((h2.1 u s (by omega) hs2).1 u2))
  have f3 : f w = f t := (h.1 w t (by omega) ht2).2 (hf w t (by omega) ht2 ((h2.1 w t (by omega) ht2).1 w2))
  have f4 : f s = f t := (h.1 s t hs2 ht2).2 r
  have q1 := e u (by omega) u3
  have q2 := e w (by omega) w3
  have : u = w := by
    rcases Nat.lt_trichotomy u w with q | q | q
    · exact absurd (by omega) (q2 u q)
    · exact q
    · exact absurd (by omega) (q1 w q)
  subst this
  exact (h2.1 s t hs2 ht2).1 (by omega)
/-- numbering as it grows: the next member -/
theorem canon_old {n m k : Nat} {f : Nat → Nat} {R : Nat → Nat → Prop} (h : Canon n m f R) (hsy : ∀ s t, R s t → R t s) (htr : ∀ s t u, R s t → R t u → R s u) {u : Nat} (hu : u < n) (hr : R n u) (hk : k = f u) : Canon (n + 1) m (nup f n k) R := by
  subst hk
  have e : ∀ s, s < n + 1 → ∃ v, v < n ∧ nup f n (f u) s = f v ∧ R s v := by
    intro s hs
    by_cases c : s = n
    · exact ⟨u, hu, by rw [c, nup_s], by rw [c]; exact hr⟩
    · refine ⟨s, by omega, nup_n c, ?_⟩
      exact (h.1 s s (by omega) (by omega)).1 rfl
  refine ⟨fun s t hs ht => ?_, fun s hs => ?_, fun s hs k hk => ?_, fun k hk => ?_⟩
  · obtain ⟨v, v1, v2, v3⟩ := e s hs
    obtain ⟨w, w1, w2, w3⟩ := e t ht
    rw [v2, w2, h.1 v w v1 w1]
    exact ⟨fun q => htr _ _ _ (htr _ _ _ v3 q) (hsy _ _ w3), fun q => htr _ _ _ (htr _ _ _ (hsy _ _ v3) q) w3⟩
  · obtain ⟨v, v1, v2, v3⟩ := e s hs
    rw [v2]; exact h.2.1 v v1
  · by_cases c : s = n
    · rw [c, nup_s] at hk
      obtain ⟨t, t1, t2⟩ := h.2.2.1 u hu k hk
      exact ⟨t, by omega, by rw [nup_n (by omega)]; exact t2⟩
    · rw [nup_n c] at hk
      obtain ⟨t, t1, t2⟩ := h.2.2.1 s (by omega) k hk
      exact ⟨t, t1, by rw [nup_n (by omega)]; exact t2⟩
  · obtain ⟨s, s1, s2⟩ := h.2.2.2 k hk
    exact ⟨s, by omega, by rw [nup_n (by omega)]; exact s2⟩
theorem canon_new {n m : Nat} {f : Nat → Nat} {R : Nat → Nat → Prop} (h : Canon n m f R) (hsy : ∀ s t, R s t → R t s) (hn : R n n) (hr : ∀ u, u < n → ¬ R n u) : Canon (n + 1) (m + 1) (nup f n m) R := by
  refine ⟨fun s t hs ht => ?_, fun s hs => ?_, fun s hs k hk => ?_, fun k hk => ?_⟩
  · by_cases c : s = n
    · by_cases c2 : t = n
      · rw [c, c2]; exact ⟨fun _ => hn, fun _ => rfl⟩
      · rw [c, nup_s, nup_n c2]
        have := h.2.1 t (by omega)
        exact ⟨fun q => by omega, fun q => absurd q (hr t (by omega))⟩
    · by_cases c2 : t = n
      · rw [c2, nup_s, nup_n c]
        have := h.2.1 s (by omega)
        exact ⟨fun q => by omega, fun q => absurd (hsy _ _ q) (hr s (by omega))⟩
      · rw [nup_n c, nup_n c2]
        exact h.1 s t (by omega) (by omega)
  · by_cases c : s = n
    · rw [c, nup_s]; omega
    · rw [nup_n c]; have := h.2.1 s (by omega); omega
  · by_cases c : s = n
    · rw [c, nup_s] at hk
      obtain ⟨t, t1, t2⟩ := h.2.2.2 k hk
      exact ⟨t, by omega, by rw [nup_n (by omega)]; exact t2⟩
    · rw [nup_n c] at hk
      obtain ⟨t, t1, t2⟩ := h.2.2.1 s (by omega) k hk
      exact ⟨t, t1, by rw [nup_n (by omega)]; exact t2⟩
  · by_cases c : k = m
    · exact ⟨n, by omega, by rw [nup_s, c]⟩
    · obtain ⟨s, s1, s2⟩ := h.2.2.2 k (by omega)
      exact ⟨s, by omega, by rw [nup_n (by omega)]; exact s2⟩
theorem canon_zero (f : Nat → Nat) (R : Nat → Nat → Prop) : Canon 0 0 f R := ⟨fun s t hs => absurd hs (Nat.not_lt_zero s), fun s hs => absurd hs (Nat.not_lt_zero s), fun s hs => absurd hs (Nat.not_lt_zero s), fun k hk => absurd hk (Nat.not_lt_zero k)⟩
