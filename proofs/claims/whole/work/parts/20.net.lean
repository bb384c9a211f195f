def rlx (f : Nat → Nat) (a b w : Nat) : Nat → Nat := fun v => if v = b then (if f a + w < f b then f a + w else f b) else f v
def rnd (fa fb sl : Nat → Nat) : Nat → (Nat → Nat) → (Nat → Nat)
  | 0, f => f
  | k + 1, f => rlx (rlx (rnd fa fb sl k f) (fa k) (fb k) (sl k)) (fb k) (fa k) (sl k)
def bfi : Nat → Nat := fun s => if s = 0 then 0 else 1000000
def bf (fa fb sl : Nat → Nat) (nl : Nat) : Nat → Nat → Nat
  | 0 => bfi
  | r + 1 => rnd fa fb sl nl (bf fa fb sl nl r)
/-- the legs stand between unlike stations, with slips of 1 to 9 -/
def legW (ns nl : Nat) (fa fb sl : Nat → Nat) : Prop := ∀ k, k < nl → fa k < ns ∧ fb k < ns ∧ fa k ≠ fb k ∧ 1 ≤ sl k ∧ sl k ≤ 9
def cnt (p : Nat → Bool) : Nat → Nat
  | 0 => 0
  | n + 1 => cnt p n + (if p n then 1 else 0)
theorem rlx_le (f : Nat → Nat) (a b w v : Nat) : rlx f a b w v ≤ f v := by
  unfold rlx
  by_cases h : v = b
  · subst h; rw [if_pos rfl]; by_cases h2 : f a + w < f v
    · rw [if_pos h2]; omega
    · rw [if_neg h2]; exact Nat.le_refl _
  · rw [if_neg h]; exact Nat.le_refl _
theorem rlx_b (f : Nat → Nat) (a b w : Nat) : rlx f a b w b ≤ f a + w := by
  unfold rlx
  rw [if_pos rfl]
  by_cases h2 : f a + w < f b
  · rw [if_pos h2]; exact Nat.le_refl _
  · rw [if_neg h2]; omega
theorem rlx_n (f : Nat → Nat) {a b w v : Nat} (h : v ≠ b) : rlx f a b w v = f v := if_neg h
section NT
variable {fa fb sl : Nat → Nat} {ns nl : Nat}
theorem rnd_le (k : Nat) (f : Nat → Nat) (v : Nat) : rnd fa fb sl k f v ≤ f v := by
  induction k with
  | zero => exact Nat.le_refl _
  | succ k ih => exact Nat.le_trans (rlx_le _ _ _ _ _) (Nat.le_trans (rlx_le _ _ _ _ _) ih)
theorem rnd_mono (f : Nat → Nat) (v : Nat) {j k : Nat} (h : j ≤ k) : rnd fa fb sl k f v ≤ rnd fa fb sl j f v := by
  induction k with
  | zero => have : j = 0 := by omega
            subst this; exact Nat.le_refl _
  | succ k ih =>
    by_cases hj : j = k + 1
    · subst hj; exact Nat.le_refl _
    · exact Nat.le_trans (Nat.le_trans (rlx_le _ _ _ _ _) (rlx_le _ _ _ _ _)) (ih (by omega))
theorem rnd_fb (f : Nat → Nat) {k n : Nat} (h : k < n) : rnd fa fb sl n f (fb k) ≤ f (fa k) + sl k := by
  refine Nat.le_trans (rnd_mono f (fb k) (Nat.succ_le_of_lt h)) ?_
  refine Nat.le_trans (rlx_le _ _ _ _ _) (Nat.le_trans (rlx_b _ _ _ _) ?_)
  have := rnd_le (fa := fa) (fb := fb) (sl := sl) k f (fa k)
  omega
theorem rnd_fa (f : Nat → Nat) {k n : Nat} (h : k < n) : rnd fa fb sl n f (fa k) ≤ f (fb k) + sl k := by
  refine Nat.le_trans (rnd_mono f (fa k) (Nat.succ_le_of_lt h)) ?_
  refine Nat.le_trans (rlx_b _ _ _ _) ?_
  have h1 := rnd_le (fa := fa) (fb := fb) (sl := sl) k f (fb k)
  have h2 := rlx_le (rnd fa fb sl k f) (fa k) (fb k) (sl k) (fb k)
  omega
theorem bf_succ_le (r v : Nat) : bf fa fb sl nl (r + 1) v ≤ bf fa fb sl nl r v := rnd_le _ _ _
theorem bf_anti {r r' : Nat} (h : r ≤ r') (v : Nat) : bf fa fb sl nl r' v ≤ bf fa fb sl nl r v := by
  induction r' with
  | zero => have : r = 0 := by omega
            subst this; exact Nat.le_refl _
  | succ k ih =>
    by_cases hj : r = k + 1
    · subst hj; exact Nat.le_refl _
    · exact Nat.le_trans (bf_succ_le _ _) (ih (by omega))
theorem bf_le (r v : Nat) : bf fa fb sl nl r v ≤ 1000000 := by
  refine Nat.le_trans (bf_anti (Nat.zero_le r) v) ?_
  show bfi v ≤ _
  unfold bfi
  by_cases h : v = 0
  · rw [if_pos h]; omega
  · rw [if_neg h]; exact Nat.le_refl _
theorem rnd_out (hW : legW ns nl fa fb sl) (f : Nat → Nat) {v : Nat} (hv : ns ≤ v) : ∀ k, k ≤ nl → rnd fa fb sl k f v = f v
  | 0, _ => rfl
  | k + 1, hk => by
    obtain ⟨h1, h2, -⟩ := hW k (by omega)
    show rlx (rlx _ _ _ _) _ _ _ v = _
    rw [rlx_n _ (by omega), rlx_n _ (by omega)]
    exact rnd_out hW f hv k (by omega)
theorem bf_out (hW : legW ns nl fa fb sl) {v : Nat} (hv : ns ≤ v) (r : Nat) : bf fa fb sl nl r v = bfi v := by
  induction r with
  | zero => rfl
  | succ r ih => exact (rnd_out hW _ hv nl (Nat.le_refl _)).trans ih
/-- what is not endless is held by a leg -/
def supd (fa fb sl : Nat → Nat) (nl : Nat) (f : Nat → Nat) : Prop := f 0 = 0 ∧ ∀ v, v ≠ 0 → f v < 1000000 → ∃ k, k < nl ∧ ((fb k = v ∧ f (fa k) + sl k ≤ f v) ∨ (fa k = v ∧ f (fb k) + sl k ≤ f v))
theorem supd_rlx {f : Nat → Nat} (h : supd fa fb sl nl f) {a b w k : Nat} (hk : k < nl) (hab : a ≠ b) (hl : (fa k = a ∧ fb k = b ∧ sl k = w) ∨ (fb k = a ∧ fa k = b ∧ sl k = w)) : supd fa fb sl nl (rlx f a b w) := by
  refine ⟨?_, fun v hv hf => ?_⟩
  · have := rlx_le f a b w 0
    rw [h.1] at this
    omega
  · have hle : ∀ u, rlx f a b w u ≤ f u := fun u => rlx_le f a b w u
    by_cases hb : v = b
    · subst hb
      by_cases hc : f a + w < f v
      · refine ⟨k, hk, ?_⟩
        have e : rlx f a v w v = f a + w := by unfold rlx; rw [if_pos rfl, if_pos hc]
        have ea : rlx f a v w a = f a := rlx_n f hab
        rcases hl with ⟨q1, q2, q3⟩ | ⟨q1, q2, q3⟩
        · left; rw [e, q1, ea, q3]; exact ⟨q2, Nat.le_refl _⟩
        · right; rw [e, q1, ea, q3]; exact ⟨q2, Nat.le_refl _⟩
      · have e : rlx f a v w v = f v := by unfold rlx; rw [if_pos rfl, if_neg hc]
        rw [e] at hf ⊢
        obtain ⟨j, hj, hq⟩ := h.2 v hv hf
        refine ⟨j, hj, ?_⟩
        rcases hq with ⟨q1, q2⟩ | ⟨q1, q2⟩
        · left; exact ⟨q1, by have := hle (fa j); omega⟩
        · right; exact ⟨q1, by have := hle (fb j); omega⟩
    · have e : rlx f a b w v = f v := rlx_n f hb
      rw [e] at hf ⊢
      obtain ⟨j, hj, hq⟩ := h.2 v hv hf
      refine ⟨j, hj, ?_⟩
      rcases hq with ⟨q1, q2⟩ | ⟨q1, q2⟩
      · left; exact ⟨q1, by have := hle (fa j); omega⟩
      · right; exact ⟨q1, by have := hle (fb j); omega⟩
theorem supd_rnd (hW : legW ns nl fa fb sl) {f : Nat → Nat} (h : supd fa fb sl nl f) : ∀ k, k ≤ nl → supd fa fb sl nl (rnd fa fb sl k f)
  | 0, _ => h
  | k + 1, hk => by
    obtain ⟨-, -, h3, -⟩ := hW k (by omega)
    exact supd_rlx (supd_rlx (supd_rnd hW h k (by omega)) (k := k) (by omega) h3 (Or.inl ⟨rfl, rfl, rfl⟩)) (k := k) (by omega) (Ne.symm h3) (Or.inr ⟨rfl, rfl, rfl⟩)
theorem supd_bf (hW : legW ns nl fa fb sl) (r : Nat) : supd fa fb sl nl (bf fa fb sl nl r) := by
  induction r with
  | zero => exact ⟨rfl, fun v hv hf => by have : bfi v = 1000000 := if_neg hv
                                          have hf : bfi v < 1000000 := hf
                                          omega⟩
  | succ r ih => exact supd_rnd hW ih nl (Nat.le_refl _)
def bsum (f : Nat → Nat) : Nat → Nat
  | 0 => 0
  | n + 1 => bsum f n + f n
theorem bsum_le {f g : Nat → Nat} (h : ∀ v, f v ≤ g v) (n : Nat) : bsum f n ≤ bsum g n := by
  induction n with
  | zero => exact Nat.le_refl _
  | succ n ih => have := h n; simp only [bsum]; omega
theorem bsum_eq {f g : Nat → Nat} (h : ∀ v, f v ≤ g v) {n : Nat} (he : bsum g n ≤ bsum f n) : ∀ v, v < n → f v = g v := by
  induction n with
  | zero => intro v hv; omega
  | succ n ih =>
    intro v hv
    have h1 := bsum_le h n
    have h2 := h n
    simp only [bsum] at he
    by_cases hn : v = n
    · subst hn; omega
    · exact ih (by omega) v (by omega)
theorem bf_fix (hW : legW ns nl fa fb sl) : ∀ (m r : Nat), bsum (bf fa fb sl nl r) ns ≤ m → ∃ K, r ≤ K ∧ ∀ v, bf fa fb sl nl (K + 1) v = bf fa fb sl nl K v := by
  intro m
  induction m with
  | zero =>
    intro r h
    refine ⟨r, Nat.le_refl _, fun v => ?_⟩
    by_cases hv : v < ns
    · exact bsum_eq (bf_succ_le r) (by omega) v hv
    · rw [bf_out hW (by omega), bf_out hW (by omega)]
  | succ m ih =>
    intro r h
    by_cases hs : bsum (bf fa fb sl nl r) ns ≤ bsum (bf fa fb sl nl (r + 1)) ns
    · refine ⟨r, Nat.le_refl _, fun v => ?_⟩
      by_cases hv : v < ns
      · exact bsum_eq (bf_succ_le r) hs v hv
      · rw [bf_out hW (by omega), bf_out hW (by omega)]
    · obtain ⟨K, h1, h2⟩ := ih (r + 1) (by omega)
      exact ⟨K, by omega, h2⟩
theorem bf_after {K : Nat} (h : ∀ v, bf fa fb sl nl (K + 1) v = bf fa fb sl nl K v) : ∀ r, K ≤ r → bf fa fb sl nl r = bf fa fb sl nl K := by
  intro r
  induction r with
  | zero => intro hr; rw [show K = 0 by omega]
  | succ r ih =>
    intro hr
    by_cases hk : K = r + 1
    · rw [hk]
    · show rnd fa fb sl nl (bf fa fb sl nl r) = _
      rw [ih (by omega)]
      exact funext h
theorem cnt_le (p : Nat → Bool) (n : Nat) : cnt p n ≤ n := by
  induction n with
  | zero => exact Nat.le_refl _
  | succ n ih => simp only [cnt]; by_cases h : p n = true <;> simp [h] <;> omega
theorem cnt_mono {p q : Nat → Bool} {n : Nat} (h : ∀ v, v < n → p v = true → q v = true) : cnt p n ≤ cnt q n := by
  induction n with
  | zero => exact Nat.le_refl _
  | succ n ih =>
    have h1 := ih (fun v hv => h v (by omega))
    simp only [cnt]
    by_cases hp : p n = true
    · simp [hp, h n (by omega) hp]; exact h1
    · simp [hp]; omega
theorem cnt_lt {p q : Nat → Bool} {n u : Nat} (h : ∀ v, v < n → p v = true → q v = true) (hu : u < n) (h1 : p u = false) (h2 : q u = true) : cnt p n < cnt q n := by
  induction n with
  | zero => omega
  | succ n ih =>
    simp only [cnt]
    by_cases hn : u = n
    · subst hn
      have := cnt_mono (p := p) (q := q) (n := u) (fun v hv => h v (by omega))
      simp [h1, h2]; omega
    · have := ih (fun v hv => h v (by omega)) (by omega)
      by_cases hp : p n = true
      · simp [hp, h n (by omega) hp]; exact this
      · simp [hp]; omega
theorem cnt_lt_n {p : Nat → Bool} {n u : Nat} (hu : u < n) (h : p u = false) : cnt p n < n := by
  have := cnt_lt (p := p) (q := fun _ => true) (n := n) (fun _ _ _ => rfl) hu h rfl
  have h2 := cnt_le (fun _ => true) n
  omega
/-- how many stations have less -/
def rk (ns : Nat) (f : Nat → Nat) (v : Nat) : Nat := cnt (fun u => decide (f u < f v)) ns
theorem rk_lt {f : Nat → Nat} {u v : Nat} (hu : u < ns) (h : f u < f v) : rk ns f u < rk ns f v :=
  cnt_lt (fun x _ hx => by simp at hx ⊢; omega) hu (by simp) (by simp [h])
theorem rk_top {f : Nat → Nat} {v : Nat} (hv : v < ns) : rk ns f v < ns := cnt_lt_n hv (by simp)
theorem bf_final (hW : legW ns nl fa fb sl) {K : Nat} (hK : ∀ v, bf fa fb sl nl (K + 1) v = bf fa fb sl nl K v) : ∀ r v, v < ns → rk ns (bf fa fb sl nl K) v ≤ r → bf fa fb sl nl r v = bf fa fb sl nl K v := by
  have hge : ∀ r v, bf fa fb sl nl K v ≤ bf fa fb sl nl r v := fun r v => by
    by_cases h : r ≤ K
    · exact bf_anti h v
    · rw [bf_after hK r (by omega)]; exact Nat.le_refl _
  have hs := supd_bf hW K
  have hcl : ∀ k, k < nl → bf fa fb sl nl K (fb k) ≤ bf fa fb sl nl K (fa k) + sl k ∧ bf fa fb sl nl K (fa k) ≤ bf fa fb sl nl K (fb k) + sl k := fun k hk => by
    constructor
    · rw [← hK (fb k)]; exact rnd_fb _ hk
    · rw [← hK (fa k)]; exact rnd_fa _ hk
  have key : ∀ v, v ≠ 0 → bf fa fb sl nl K v < 1000000 → ∃ u k, k < nl ∧ u < ns ∧ bf fa fb sl nl K u + sl k = bf fa fb sl nl K v ∧ 1 ≤ sl k ∧ ((fb k = v ∧ fa k = u) ∨ (fa k = v ∧ fb k = u)) := fun v h0 hf => by
    obtain ⟨k, hk, hq⟩ := hs.2 v h0 hf
    obtain ⟨w1, w2, -, w4, -⟩ := hW k hk
    obtain ⟨c1, c2⟩ := hcl k hk
    rcases hq with ⟨q1, q2⟩ | ⟨q1, q2⟩
    · refine ⟨fa k, k, hk, w1, ?_, w4, Or.inl ⟨q1, rfl⟩⟩
      rw [q1] at c1; omega
    · refine ⟨fb k, k, hk, w2, ?_, w4, Or.inr ⟨q1, rfl⟩⟩
      rw [q1] at c2; omega
  intro r
  induction r with
  | zero =>
    intro v hv hr
    by_cases h0 : v = 0
    · subst h0; rw [hs.1]; rfl
    · by_cases hf : bf fa fb sl nl K v < 1000000
      · obtain ⟨u, k, -, hu, he, hw, -⟩ := key v h0 hf
        have := rk_lt (ns := ns) (f := bf fa fb sl nl K) (u := u) (v := v) hu (by omega)
        omega
      · have h1 : bf fa fb sl nl 0 v = 1000000 := if_neg h0
        have h2 := hge 0 v
        omega
  | succ r ih =>
    intro v hv hr
    have h2 := hge (r + 1) v
    by_cases h0 : v = 0
    · subst h0; rw [hs.1, (supd_bf hW (r + 1)).1]
    · by_cases hf : bf fa fb sl nl K v < 1000000
      · obtain ⟨u, k, hk, hu, he, hw, hc⟩ := key v h0 hf
        have hlt := rk_lt (ns := ns) (f := bf fa fb sl nl K) (u := u) (v := v) hu (by omega)
        have hu' := ih u hu (by omega)
        rcases hc with ⟨q1, q2⟩ | ⟨q1, q2⟩
        · have := rnd_fb (fa := fa) (fb := fb) (sl := sl) (bf fa fb sl nl r) hk
          rw [q1, q2, hu'] at this
          have e : bf fa fb sl nl (r + 1) v = rnd fa fb sl nl (bf fa fb sl nl r) v := rfl
          omega
        · have := rnd_fa (fa := fa) (fb := fb) (sl := sl) (bf fa fb sl nl r) hk
          rw [q1, q2, hu'] at this
          have e : bf fa fb sl nl (r + 1) v = rnd fa fb sl nl (bf fa fb sl nl r) v := rfl
          omega
      · have := bf_le (fa := fa) (fb := fb) (sl := sl) (nl := nl) (r + 1) v
        omega
/-- after ns - 1 rounds nothing changes any more -/
theorem bf_stable (hW : legW ns nl fa fb sl) {r : Nat} (hr : ns - 1 ≤ r) : bf fa fb sl nl r = bf fa fb sl nl (ns - 1) := by
  obtain ⟨K, h1, h2⟩ := bf_fix hW _ 0 (Nat.le_refl _)
  funext v
  by_cases hv : v < ns
  · have := rk_top (f := bf fa fb sl nl K) hv
    rw [bf_final hW h2 r v hv (by omega), bf_final hW h2 (ns - 1) v hv (by omega)]
  · rw [bf_out hW (by omega), bf_out hW (by omega)]
/-- the doubts: 1000000 without a way -/
def dist (fa fb sl : Nat → Nat) (nl : Nat) : Nat → Nat := bf fa fb sl nl 6
theorem dist_eq (hW : legW ns nl fa fb sl) (hn : ns ≤ 6) {r : Nat} (hr : ns - 1 ≤ r) : bf fa fb sl nl r = dist fa fb sl nl := by
  rw [bf_stable hW hr]; exact (bf_stable hW (by omega)).symm
theorem dist_0 (hW : legW ns nl fa fb sl) : dist fa fb sl nl 0 = 0 := (supd_bf hW 6).1
theorem dist_cl (hW : legW ns nl fa fb sl) (hn : ns ≤ 6) {k : Nat} (hk : k < nl) : dist fa fb sl nl (fb k) ≤ dist fa fb sl nl (fa k) + sl k ∧ dist fa fb sl nl (fa k) ≤ dist fa fb sl nl (fb k) + sl k := by
  have e : bf fa fb sl nl 7 = dist fa fb sl nl := dist_eq hW hn (by omega)
  constructor
  · have := rnd_fb (fa := fa) (fb := fb) (sl := sl) (dist fa fb sl nl) hk
    have e2 : rnd fa fb sl nl (dist fa fb sl nl) = dist fa fb sl nl := e
    rw [e2] at this; exact this
  · have := rnd_fa (fa := fa) (fb := fb) (sl := sl) (dist fa fb sl nl) hk
    have e2 : rnd fa fb sl nl (dist fa fb sl nl) = dist fa fb sl nl := e
    rw [e2] at this; exact this
/-- a least way comes over a leg -/
theorem dist_sup (hW : legW ns nl fa fb sl) (hn : ns ≤ 6) {v : Nat} (h0 : v ≠ 0) (hf : dist fa fb sl nl v < 1000000) : ∃ k, k < nl ∧ ((fb k = v ∧ dist fa fb sl nl (fa k) + sl k = dist fa fb sl nl v) ∨ (fa k = v ∧ dist fa fb sl nl (fb k) + sl k = dist fa fb sl nl v)) := by
  obtain ⟨k, hk, hq⟩ := (supd_bf hW 6).2 v h0 hf
  obtain ⟨c1, c2⟩ := dist_cl hW hn hk
  refine ⟨k, hk, ?_⟩
  have e : ∀ u, bf fa fb sl nl 6 u = dist fa fb sl nl u := fun _ => rfl
  simp only [e] at hq
  rcases hq with ⟨q1, q2⟩ | ⟨q1, q2⟩
  · left; rw [q1] at c1; exact ⟨q1, by omega⟩
  · right; rw [q1] at c2; exact ⟨q1, by omega⟩
theorem dist_bound (hW : legW ns nl fa fb sl) (hn : ns ≤ 6) : ∀ (m v : Nat), v < ns → dist fa fb sl nl v < 1000000 → rk ns (dist fa fb sl nl) v ≤ m → dist fa fb sl nl v ≤ 9 * m := by
  intro m
  induction m with
  | zero =>
    intro v hv hf hr
    by_cases h0 : v = 0
    · subst h0; rw [dist_0 hW]; omega
    · obtain ⟨k, hk, hq⟩ := dist_sup hW hn h0 hf
      obtain ⟨w1, w2, -, w4, w5⟩ := hW k hk
      rcases hq with ⟨q1, q2⟩ | ⟨q1, q2⟩
      · have := rk_lt (ns := ns) (f := dist fa fb sl nl) (u := fa k) (v := v) w1 (by omega); omega
      · have := rk_lt (ns := ns) (f := dist fa fb sl nl) (u := fb k) (v := v) w2 (by omega); omega
  | succ m ih =>
    intro v hv hf hr
    by_cases h0 : v = 0
    · subst h0; rw [dist_0 hW]; omega
    · obtain ⟨k, hk, hq⟩ := dist_sup hW hn h0 hf
      obtain ⟨w1, w2, -, w4, w5⟩ := hW k hk
      rcases hq with ⟨q1, q2⟩ | ⟨q1, q2⟩
      · have := rk_lt (ns := ns) (f := dist fa fb sl nl) (u := fa k) (v := v) w1 (by omega)
        have := ih (fa k) w1 (by omega) (by omega); omega
      · have := rk_lt (ns := ns) (f := dist fa fb sl nl) (u := fb k) (v := v) w2 (by omega)
        have := ih (fb k) w2 (by omega) (by omega); omega
theorem dist_45 (hW : legW ns nl fa fb sl) (hn : ns ≤ 6) {v : Nat} (hv : v < ns) (hf : dist fa fb sl nl v < 1000000) : dist fa fb sl nl v ≤ 45 := by
  have := rk_top (f := dist fa fb sl nl) hv
  have := dist_bound hW hn 5 v hv hf (by omega)
  omega
/-- on the way: endless, or small -/
def bsm (c : Nat) (f : Nat → Nat) : Prop := ∀ v, f v = 1000000 ∨ f v ≤ c
theorem bsm_rlx {c a b w : Nat} {f : Nat → Nat} (h : bsm c f) (hw : w ≤ 9) (hc : c < 1000000) : bsm (c + 9) (rlx f a b w) := by
  intro v
  have hv := h v
  have ha := h a
  have hb := h b
  unfold rlx
  by_cases e : v = b
  · subst e
    rw [if_pos rfl]
    by_cases q : f a + w < f v
    · rw [if_pos q]; omega
    · rw [if_neg q]; omega
  · rw [if_neg e]; omega
end NT
