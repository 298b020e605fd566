/-! WAYS, as pure numbers: walks, the least of them, closing over all desks -/
def Wn (E : Nat → Nat → Nat → Prop) : Nat → Nat → Nat → Nat → Prop
  | 0, u, v, x => u = v ∧ x = 0
  | n + 1, u, v, x => ∃ m y w, Wn E n u m y ∧ E m v w ∧ x = y + w
theorem Wn_cat {E : Nat → Nat → Nat → Prop} {n u v x : Nat} (h : Wn E n u v x) : ∀ {m z y : Nat}, Wn E m v z y → Wn E (n + m) u z (x + y) := by
  intro m
  induction m with
  | zero =>
    rintro z y ⟨rfl, rfl⟩
    exact h
  | succ m ih =>
    rintro z y ⟨a, b, w, h1, h2, rfl⟩
    exact ⟨a, x + b, w, ih h1, h2, by omega⟩
def isD (E : Nat → Nat → Nat → Prop) (u v x : Nat) : Prop := (x = 9999 ∨ ∃ n, Wn E n u v x) ∧ x ≤ 9999 ∧ ∀ n y, Wn E n u v y → x ≤ y
theorem isD_le {E : Nat → Nat → Nat → Prop} {u v x y : Nat} (h1 : isD E u v x) (h2 : isD E u v y) : x ≤ y := by
  rcases h2.1 with rfl | ⟨n, hn⟩
  · exact h1.2.1
  · exact h1.2.2 n y hn
theorem isD_eq {E : Nat → Nat → Nat → Prop} {u v x y : Nat} (h1 : isD E u v x) (h2 : isD E u v y) : x = y := Nat.le_antisymm (isD_le h1 h2) (isD_le h2 h1)
abbrev tF : Type := Nat → Nat → Nat
def um (f : tF) (i j x : Nat) : tF := fun a b => if a = i ∧ b = j then min (f i j) x else f a b
/-- tubes: how long, forth, back -/
abbrev tG : Type := (Nat → Nat) × (Nat → Bool) × (Nat → Bool)
def Eg (K : tK) (G : tG) (u v x : Nat) : Prop := ∃ t, t < kT K ∧ x = G.1 t ∧ ((G.2.1 t = true ∧ kF K t = u ∧ kO K t = v) ∨ (G.2.2 t = true ∧ kO K t = u ∧ kF K t = v))
def gI (K : tK) (G : tG) : Prop := ∀ t, t < kT K → 1 ≤ G.1 t ∧ G.1 t ≤ 90
theorem Eg_rng {K : tK} {G : tG} (hI : kInv K) (hG : gI K G) {u v x : Nat} (h : Eg K G u v x) : u < kD K ∧ v < kD K ∧ 1 ≤ x ∧ x ≤ 90 := by
  obtain ⟨t, ht, rfl, h⟩ := h
  have g1 := kI_t hI ht
  have g2 := hG t ht
  omega
def f0 : tF := fun i j => if i = j then 0 else 9999
def fi1 (K : tK) (G : tG) (t : Nat) (f : tF) : tF := if G.2.1 t = true then um f (kF K t) (kO K t) (G.1 t) else f
def fi2 (K : tK) (G : tG) (t : Nat) (f : tF) : tF := if G.2.2 t = true then um f (kO K t) (kF K t) (G.1 t) else f
def fi (K : tK) (G : tG) : Nat → tF
  | 0 => f0
  | t + 1 => fi2 K G t (fi1 K G t (fi K G t))
def fwJ (f : tF) (k i : Nat) : Nat → tF
  | 0 => f
  | j + 1 => um (fwJ f k i j) i j (fwJ f k i j i k + fwJ f k i j k j)
def fwI (f : tF) (k N : Nat) : Nat → tF
  | 0 => f
  | i + 1 => fwJ (fwI f k N i) k i N
def fwK (f : tF) (N : Nat) : Nat → tF
  | 0 => f
  | k + 1 => fwI (fwK f N k) k N N
/-- least minutes from all to all -/
def dG (K : tK) (G : tG) : tF := fwK (fi K G (kT K)) (kD K) (kD K)
theorem um_le (f : tF) (i j x a b : Nat) : um f i j x a b ≤ f a b := by
  unfold um
  split
  · rename_i h; rw [h.1, h.2]; omega
  · omega
theorem fwJ_eq {f : tF} {k : Nat} (hk : f k k = 0) (i : Nat) : ∀ n a b, fwJ f k i n a b = if a = i ∧ b < n then min (f a b) (f a k + f k b) else f a b := by
  intro n
  induction n with
  | zero => intro a b; simp [fwJ]
  | succ n ih =>
    intro a b
    have h1 : fwJ f k i n i k = f i k := by rw [ih]; split <;> omega
    have h2 : fwJ f k i n k n = f k n := by rw [ih, if_neg (by omega)]
    have h3 : fwJ f k i n i n = f i n := by rw [ih, if_neg (by omega)]
    show um _ _ _ _ a b = _
    unfold um
    rw [h1, h2, h3]
    by_cases e : a = i ∧ b = n
    · obtain ⟨rfl, rfl⟩ := e
      rw [if_pos ⟨rfl, rfl⟩, if_pos ⟨rfl, by omega⟩]
    · rw [if_neg e, ih]
      by_cases e2 : a = i ∧ b < n
      · rw [if_pos e2, if_pos (by omega)]
      · rw [if_neg e2, if_neg (by omega)]
theorem fwI_eq {f : tF} {k N : Nat} (hk : f k k = 0) : ∀ n a b, fwI f k N n a b = if a < n ∧ b < N then min (f a b) (f a k + f k b) else f a b := by
  intro n
  induction n with
  | zero => intro a b; simp [fwI]
  | succ n ih =>
    intro a b
    have h0 : fwI f k N n k k = 0 := by rw [ih]; split <;> omega
    have h1 : fwI f k N n k b = f k b := by rw [ih]; split <;> omega
    show fwJ _ _ _ _ a b = _
    rw [fwJ_eq h0, h1]
    by_cases e : a = n ∧ b < N
    · obtain ⟨rfl, e2⟩ := e
      rw [if_pos ⟨rfl, e2⟩, if_pos ⟨by omega, e2⟩, ih, if_neg (by omega), ih, if_neg (by omega)]
    · rw [if_neg e, ih]
      by_cases e2 : a < n ∧ b < N
      · rw [if_pos e2, if_pos (by omega)]
      · rw [if_neg e2, if_neg (by omega)]
theorem fwK_diag {f : tF} (h : ∀ i, f i i = 0) (N : Nat) : ∀ n i, fwK f N n i i = 0
  | 0, i => h i
  | n + 1, i => by
    show fwI _ _ _ _ i i = 0
    rw [fwI_eq (fwK_diag h N n n)]
    have := fwK_diag h N n i
    split <;> omega
theorem fwK_le {f : tF} (h : ∀ i, f i i = 0) (N : Nat) : ∀ n a b, fwK f N n a b ≤ f a b
  | 0, _, _ => Nat.le_refl _
  | n + 1, a, b => by
    show fwI _ _ _ _ a b ≤ _
    rw [fwI_eq (fwK_diag h N n n)]
    have := fwK_le h N n a b
    split <;> omega
theorem fwK_tri {f : tF} (h : ∀ i, f i i = 0) (N : Nat) : ∀ n, n ≤ N → ∀ i j m, i < N → j < N → m < n → fwK f N n i j ≤ fwK f N n i m + fwK f N n m j := by
  intro n
  induction n with
  | zero => intro _ i j m _ _ hm; omega
  | succ n ih =>
    intro hn i j m hi hj hm
    have h0 := fwK_diag h N n
    show fwI _ _ _ _ i j ≤ fwI _ _ _ _ i m + fwI _ _ _ _ m j
    rw [fwI_eq (h0 n), fwI_eq (h0 n), fwI_eq (h0 n), if_pos (by omega), if_pos (by omega), if_pos (by omega)]
    by_cases e : m = n
    · subst e
      have := h0 m
      omega
    · have h1 := ih (by omega) i j m hi hj (by omega)
      have h2 := ih (by omega) i n m hi (by omega) (by omega)
      have h3 := ih (by omega) n j m (by omega) hj (by omega)
      omega
def fOK (E : Nat → Nat → Nat → Prop) (f : tF) : Prop := ∀ i j, f i j ≤ 9999 ∧ (f i j = 9999 ∨ ∃ n, Wn E n i j (f i j))
theorem fwK_ok {E : Nat → Nat → Nat → Prop} {f : tF} (h : ∀ i, f i i = 0) (hf : fOK E f) (N : Nat) : ∀ n, fOK E (fwK f N n) := by
  intro n
  induction n with
  | zero => exact hf
  | succ n ih =>
    intro i j
    show fwI _ _ _ _ i j ≤ _ ∧ (fwI _ _ _ _ i j = _ ∨ ∃ m, Wn E m i j (fwI _ _ _ _ i j))
    rw [fwI_eq (fwK_diag h N n n)]
    by_cases e : i < N ∧ j < N
    · rw [if_pos e]
      obtain ⟨a1, a2⟩ := ih i j
      obtain ⟨b1, b2⟩ := ih i n
      obtain ⟨c1, c2⟩ := ih n j
      refine ⟨by omega, ?_⟩
      by_cases e2 : fwK f N n i n + fwK f N n n j < fwK f N n i j
      · rw [Nat.min_eq_right (by omega)]
        rcases b2 with b2 | ⟨p, hp⟩
        · omega
        · rcases c2 with c2 | ⟨q, hq⟩
          · omega
          · exact Or.inr ⟨p + q, Wn_cat hp hq⟩
      · rw [Nat.min_eq_left (by omega)]
        exact a2
    · rw [if_neg e]
      exact ih i j
theorem Wn_1 {E : Nat → Nat → Nat → Prop} {u v x : Nat} (h : E u v x) : Wn E 1 u v x := ⟨u, 0, x, ⟨rfl, rfl⟩, h, by omega⟩
theorem um_ok {E : Nat → Nat → Nat → Prop} {f : tF} (hf : fOK E f) {i j x : Nat} (h : E i j x) : fOK E (um f i j x) := by
  intro a b
  unfold um
  by_cases e : a = i ∧ b = j
  · rw [if_pos e]
    obtain ⟨rfl, rfl⟩ := e
    have := hf a b
    refine ⟨by omega, ?_⟩
    by_cases e2 : x < f a b
    · rw [Nat.min_eq_right (by omega)]; exact Or.inr ⟨1, Wn_1 h⟩
    · rw [Nat.min_eq_left (by omega)]; exact this.2
  · rw [if_neg e]; exact hf a b
theorem f0_ok (E : Nat → Nat → Nat → Prop) : fOK E f0 := by
  intro i j
  unfold f0
  by_cases e : i = j
  · subst e; rw [if_pos rfl]; exact ⟨by omega, Or.inr ⟨0, rfl, rfl⟩⟩
  · rw [if_neg e]; exact ⟨by omega, Or.inl rfl⟩
theorem fi_ok (K : tK) (G : tG) : ∀ t, t ≤ kT K → fOK (Eg K G) (fi K G t) := by
  intro t
  induction t with
  | zero => intro _; exact f0_ok _
  | succ t ih =>
    intro ht
    have h1 := ih (by omega)
    have h2 : fOK (Eg K G) (fi1 K G t (fi K G t)) := by
      unfold fi1
      split
      · rename_i h; exact um_ok h1 ⟨t, by omega, rfl, Or.inl ⟨h, rfl, rfl⟩⟩
      · exact h1
    show fOK _ (fi2 _ _ _ _)
    unfold fi2
    split
    · rename_i h; exact um_ok h2 ⟨t, by omega, rfl, Or.inr ⟨h, rfl, rfl⟩⟩
    · exact h2
theorem um_diag {f : tF} (h : ∀ i, f i i = 0) (i j x : Nat) : ∀ k, um f i j x k k = 0 := by
  intro k
  have := um_le f i j x k k
  have := h k
  omega
theorem fi_diag (K : tK) (G : tG) : ∀ t i, fi K G t i i = 0 := by
  intro t
  induction t with
  | zero => intro i; simp [fi, f0]
  | succ t ih =>
    have h2 : ∀ i, fi1 K G t (fi K G t) i i = 0 := by
      unfold fi1
      split
      · exact um_diag ih _ _ _
      · exact ih
    show ∀ i, fi2 _ _ _ _ i i = 0
    unfold fi2
    split
    · exact um_diag h2 _ _ _
    · exact h2
theorem fi_mono (K : tK) (G : tG) (t a b : Nat) : fi K G (t + 1) a b ≤ fi K G t a b := by
  have h1 : fi1 K G t (fi K G t) a b ≤ fi K G t a b := by
    unfold fi1; split
    · exact um_le _ _ _ _ _ _
    · omega
  have h2 : fi K G (t + 1) a b ≤ fi1 K G t (fi K G t) a b := by
    show fi2 _ _ _ _ a b ≤ _
    unfold fi2; split
    · exact um_le _ _ _ _ _ _
    · omega
  omega
theorem um_at (f : tF) (i j x : Nat) : um f i j x i j ≤ x := by
  unfold um; rw [if_pos ⟨rfl, rfl⟩]; omega
theorem fi_edge (K : tK) (G : tG) : ∀ n t, t < n → (G.2.1 t = true → fi K G n (kF K t) (kO K t) ≤ G.1 t) ∧ (G.2.2 t = true → fi K G n (kO K t) (kF K t) ≤ G.1 t) := by
  intro n
  induction n with
  | zero => intro t ht; omega
  | succ n ih =>
    intro t ht
    by_cases e : t = n
    · subst e
      constructor
      · intro h
        have h1 : fi1 K G t (fi K G t) (kF K t) (kO K t) ≤ G.1 t := by
          unfold fi1; rw [if_pos h]; exact um_at _ _ _ _
        have h2 : fi K G (t + 1) (kF K t) (kO K t) ≤ fi1 K G t (fi K G t) (kF K t) (kO K t) := by
          show fi2 _ _ _ _ _ _ ≤ _
          unfold fi2; split
          · exact um_le _ _ _ _ _ _
          · omega
        omega
      · intro h
        show fi2 _ _ _ _ _ _ ≤ _
        unfold fi2; rw [if_pos h]; exact um_at _ _ _ _
    · obtain ⟨h1, h2⟩ := ih t (by omega)
      have h3 := fi_mono K G n (kF K t) (kO K t)
      have h4 := fi_mono K G n (kO K t) (kF K t)
      exact ⟨fun h => by have := h1 h; omega, fun h => by have := h2 h; omega⟩
theorem dG_isD {K : tK} {G : tG} (hI : kInv K) {u v : Nat} (hu : u < kD K) (hv : v < kD K) : isD (Eg K G) u v (dG K G u v) := by
  have h1 := fwK_ok (fi_diag K G (kT K)) (fi_ok K G (kT K) (Nat.le_refl _)) (kD K) (kD K) u v
  refine ⟨h1.2, h1.1, ?_⟩
  intro n
  induction n generalizing v with
  | zero =>
    rintro y ⟨rfl, rfl⟩
    have := fwK_diag (fi_diag K G (kT K)) (kD K) (kD K) u
    unfold dG
    omega
  | succ n ih =>
    rintro y ⟨m, a, w, h2, h3, rfl⟩
    have hm : m < kD K := by
      obtain ⟨t, ht, -, h⟩ := h3
      have g1 := kI_t hI ht
      omega
    have h4 := ih hm (fwK_ok (fi_diag K G (kT K)) (fi_ok K G (kT K) (Nat.le_refl _)) (kD K) (kD K) u m) a h2
    have h5 : dG K G m v ≤ w := by
      obtain ⟨t, ht, rfl, h⟩ := h3
      have g2 := fi_edge K G (kT K) t ht
      rcases h with ⟨p1, rfl, rfl⟩ | ⟨p1, rfl, rfl⟩
      · exact Nat.le_trans (fwK_le (fi_diag K G (kT K)) _ _ _ _) (g2.1 p1)
      · exact Nat.le_trans (fwK_le (fi_diag K G (kT K)) _ _ _ _) (g2.2 p1)
    have h6 := fwK_tri (fi_diag K G (kT K)) (kD K) (kD K) (Nat.le_refl _) u v m hu hv hm
    unfold dG at *
    omega
theorem dG_diag (K : tK) (G : tG) (u : Nat) : dG K G u u = 0 := fwK_diag (fi_diag K G (kT K)) (kD K) (kD K) u
theorem dG_le (K : tK) (G : tG) (u v : Nat) : dG K G u v ≤ 9999 := (fwK_ok (fi_diag K G (kT K)) (fi_ok K G (kT K) (Nat.le_refl _)) (kD K) (kD K) u v).1
theorem Wn_end {K : tK} {G : tG} (hI : kInv K) {n u v x : Nat} (h : Wn (Eg K G) n u v x) (hu : u < kD K) : v < kD K := by
  cases n with
  | zero => rw [← h.1]; exact hu
  | succ n =>
    obtain ⟨m, y, w, -, h2, -⟩ := h
    obtain ⟨t, ht, -, h⟩ := h2
    have g1 := kI_t hI ht
    omega
/-- the last tube of a least way -/
theorem dG_last {K : tK} {G : tG} (hI : kInv K) (hG : gI K G) {u v : Nat} (hu : u < kD K) (hv : v < kD K) (h : dG K G u v < 9999) : u = v ∨ ∃ m w, m < kD K ∧ Eg K G m v w ∧ dG K G u v = dG K G u m + w ∧ 1 ≤ w ∧ w ≤ 90 := by
  obtain ⟨h1, h2, h3⟩ := dG_isD (G := G) hI hu hv
  rcases h1 with h1 | ⟨n, hn⟩
  · omega
  · cases n with
    | zero => exact Or.inl hn.1
    | succ n =>
      obtain ⟨m, y, w, h4, h5, h6⟩ := hn
      obtain ⟨g1, g2, g3, g4⟩ := Eg_rng hI hG h5
      obtain ⟨d1, d2, d3⟩ := dG_isD (G := G) hI hu g1
      have h7 := d3 n y h4
      refine Or.inr ⟨m, w, g1, h5, ?_, g3, g4⟩
      rcases d1 with d1 | ⟨p, hp⟩
      · omega
      · have h8 := h3 (p + 1) _ ⟨m, _, w, hp, h5, rfl⟩
        omega
theorem ctn_mono {p q : Nat → Bool} : ∀ {n : Nat}, (∀ i, i < n → p i = true → q i = true) → ctn p n ≤ ctn q n
  | 0, _ => Nat.le_refl _
  | n + 1, h => by
    have h1 := ctn_mono (p := p) (q := q) (n := n) (fun i hi => h i (by omega))
    have h2 := h n (by omega)
    simp only [ctn]
    by_cases e : p n = true
    · rw [if_pos e, if_pos (h2 e)]; omega
    · rw [if_neg e]; split <;> omega
theorem ctn_lt {p q : Nat → Bool} : ∀ {n : Nat}, (∀ i, i < n → p i = true → q i = true) → ∀ {j : Nat}, j < n → p j = false → q j = true → ctn p n < ctn q n
  | 0, _, _, hj, _, _ => by omega
  | n + 1, h, j, hj, h1, h2 => by
    simp only [ctn]
    by_cases e : j = n
    · subst e
      have := ctn_mono (p := p) (q := q) (n := j) (fun i hi => h i (by omega))
      rw [h1, h2]
      simp
      omega
    · have h3 := ctn_lt (p := p) (q := q) (n := n) (fun i hi => h i (by omega)) (j := j) (by omega) h1 h2
      have h4 := h n (by omega)
      by_cases e : p n = true
      · rw [if_pos e, if_pos (h4 e)]; omega
      · rw [if_neg e]; split <;> omega
/-- how many desks are nearer -/
def rkG (K : tK) (G : tG) (u v : Nat) : Nat := ctn (fun e => decide (dG K G u e < dG K G u v)) (kD K)
theorem rk_le (K : tK) (G : tG) (u v : Nat) : rkG K G u v ≤ kD K := ctn_le _ _
theorem rk_lt {K : tK} {G : tG} {u v m : Nat} (hm : m < kD K) (h : dG K G u m < dG K G u v) : rkG K G u m < rkG K G u v := by
  unfold rkG
  apply ctn_lt (j := m)
  · intro i _ h1
    simp at h1 ⊢
    omega
  · exact hm
  · simp
  · simpa using h
theorem dG_rk {K : tK} {G : tG} (hI : kInv K) (hG : gI K G) {u : Nat} (hu : u < kD K) : ∀ n v, v < kD K → rkG K G u v ≤ n → dG K G u v < 9999 → dG K G u v ≤ 90 * rkG K G u v := by
  intro n
  induction n with
  | zero =>
    intro v hv hr h
    rcases dG_last hI hG hu hv h with rfl | ⟨m, w, h1, h2, h3, h4, h5⟩
    · rw [dG_diag]; omega
    · have := rk_lt (G := G) (u := u) (v := v) h1 (by omega)
      omega
  | succ n ih =>
    intro v hv hr h
    rcases dG_last hI hG hu hv h with rfl | ⟨m, w, h1, h2, h3, h4, h5⟩
    · rw [dG_diag]; omega
    · have h6 := rk_lt (G := G) (u := u) (v := v) h1 (by omega)
      have h7 := ih m h1 (by omega) (by omega)
      omega
theorem dG_rng {K : tK} {G : tG} (hI : kInv K) (hG : gI K G) {u v : Nat} (hu : u < kD K) (hv : v < kD K) : dG K G u v = 9999 ∨ dG K G u v ≤ 720 := by
  have h1 := dG_le K G u v
  by_cases h : dG K G u v < 9999
  · have h2 := dG_rk hI hG hu _ v hv (Nat.le_refl _) h
    have h3 := rk_le K G u v
    have h4 := (kI_n hI).1
    omega
  · omega
/-- one more tube is never nearer -/
theorem dG_edge {K : tK} {G : tG} (hI : kInv K) {u m v w : Nat} (hu : u < kD K) (h : Eg K G m v w) : dG K G u v ≤ dG K G u m + w := by
  have hmv : m < kD K ∧ v < kD K := by
    obtain ⟨t, ht, -, h⟩ := h
    have g1 := kI_t hI ht
    omega
  obtain ⟨d1, d2, d3⟩ := dG_isD (G := G) hI hu hmv.1
  have e1 := dG_isD (G := G) hI hu hmv.2
  rcases d1 with d1 | ⟨p, hp⟩
  · have := e1.2.1; omega
  · exact e1.2.2 (p + 1) _ ⟨m, _, w, hp, h, rfl⟩
/-! relaxing again and again -/
def rOK (K : tK) (G : tG) (s : Nat) (r : Nat → Nat) : Prop := r s = 0 ∧ ∀ d, d < kD K → dG K G s d ≤ r d ∧ r d ≤ 9999
def rlx (r : Nat → Nat) (u v w : Nat) : Nat → Nat := if r u = 9999 ∨ r v ≤ r u + w then r else fun d => if d = v then r u + w else r d
theorem rlx_ok {K : tK} {G : tG} (hI : kInv K) {s u v w : Nat} {r : Nat → Nat} (hs : s < kD K) (h : rOK K G s r) (hE : Eg K G u v w) : rOK K G s (rlx r u v w) := by
  unfold rlx
  split
  · exact h
  · rename_i hn
    have huv : u < kD K ∧ v < kD K := by
      obtain ⟨t, ht, -, h⟩ := hE
      have g1 := kI_t hI ht
      omega
    refine ⟨?_, ?_⟩
    · have := h.1
      by_cases e : s = v
      · subst e; omega
      · simp [e, this]
    · intro d hd
      have h1 := h.2 d hd
      by_cases e : d = v
      · subst e
        have h2 := h.2 u huv.1
        have h3 := dG_edge hI hs hE
        simp
        omega
      · simpa [e] using h1
theorem rlx_le (r : Nat → Nat) (u v w d : Nat) : rlx r u v w d ≤ r d := by
  unfold rlx
  split
  · omega
  · by_cases e : d = v
    · subst e; simp; omega
    · simp [e]
theorem rlx_at {r : Nat → Nat} (u v w : Nat) (h : r v ≤ 9999) : rlx r u v w v ≤ r u + w := by
  unfold rlx
  split
  · omega
  · simp
def rl1 (K : tK) (G : tG) (t : Nat) (r : Nat → Nat) : Nat → Nat := if G.2.1 t = true then rlx r (kF K t) (kO K t) (G.1 t) else r
def rl2 (K : tK) (G : tG) (t : Nat) (r : Nat → Nat) : Nat → Nat := if G.2.2 t = true then rlx r (kO K t) (kF K t) (G.1 t) else r
def rlT (K : tK) (G : tG) (r : Nat → Nat) : Nat → (Nat → Nat)
  | 0 => r
  | t + 1 => rl2 K G t (rl1 K G t (rlT K G r t))
theorem rl1_ok {K : tK} {G : tG} (hI : kInv K) {s t : Nat} {r : Nat → Nat} (hs : s < kD K) (ht : t < kT K) (h : rOK K G s r) : rOK K G s (rl1 K G t r) := by
  unfold rl1; split
  · rename_i e; exact rlx_ok hI hs h ⟨t, ht, rfl, Or.inl ⟨e, rfl, rfl⟩⟩
  · exact h
theorem rl2_ok {K : tK} {G : tG} (hI : kInv K) {s t : Nat} {r : Nat → Nat} (hs : s < kD K) (ht : t < kT K) (h : rOK K G s r) : rOK K G s (rl2 K G t r) := by
  unfold rl2; split
  · rename_i e; exact rlx_ok hI hs h ⟨t, ht, rfl, Or.inr ⟨e, rfl, rfl⟩⟩
  · exact h
theorem rl1_le (K : tK) (G : tG) (t : Nat) (r : Nat → Nat) (d : Nat) : rl1 K G t r d ≤ r d := by
  unfold rl1; split
  · exact rlx_le _ _ _ _ _
  · omega
theorem rl2_le (K : tK) (G : tG) (t : Nat) (r : Nat → Nat) (d : Nat) : rl2 K G t r d ≤ r d := by
  unfold rl2; split
  · exact rlx_le _ _ _ _ _
  · omega
theorem rlT_ok {K : tK} {G : tG} (hI : kInv K) {s : Nat} {r : Nat → Nat} (hs : s < kD K) (h : rOK K G s r) : ∀ t, t ≤ kT K → rOK K G s (rlT K G r t) := by
  intro t
  induction t with
  | zero => intro _; exact h
  | succ t ih =>
    intro ht
    exact rl2_ok hI hs (by omega) (rl1_ok hI hs (by omega) (ih (by omega)))
theorem rlT_le (K : tK) (G : tG) (r : Nat → Nat) : ∀ t d, rlT K G r t d ≤ r d := by
  intro t
  induction t with
  | zero => intro d; exact Nat.le_refl _
  | succ t ih =>
    intro d
    exact Nat.le_trans (rl2_le _ _ _ _ _) (Nat.le_trans (rl1_le _ _ _ _ _) (ih d))
theorem rlT_edge {K : tK} {G : tG} (hI : kInv K) {s : Nat} {r : Nat → Nat} (hs : s < kD K) (h : rOK K G s r) : ∀ n, n ≤ kT K → ∀ t, t < n → (G.2.1 t = true → rlT K G r n (kO K t) ≤ r (kF K t) + G.1 t) ∧ (G.2.2 t = true → rlT K G r n (kF K t) ≤ r (kO K t) + G.1 t) := by
  intro n
  induction n with
  | zero => intro _ t ht; omega
  | succ n ih =>
    intro hn t ht
    have h0 := rlT_ok hI hs h n (by omega)
    have h1 := rl1_ok hI hs (show n < kT K by omega) h0
    by_cases e : t = n
    · subst e
      have g := kI_t hI (show t < kT K by omega)
      constructor
      · intro q
        have a1 := rl2_le K G t (rl1 K G t (rlT K G r t)) (kO K t)
        have a2 : rl1 K G t (rlT K G r t) (kO K t) ≤ rlT K G r t (kF K t) + G.1 t := by
          unfold rl1; rw [if_pos q]; exact rlx_at _ _ _ (h0.2 _ g.1.2.1).2
        have a3 := rlT_le K G r t (kF K t)
        show rl2 _ _ _ _ _ ≤ _
        omega
      · intro q
        have a2 : rl2 K G t (rl1 K G t (rlT K G r t)) (kF K t) ≤ rl1 K G t (rlT K G r t) (kO K t) + G.1 t := by
          unfold rl2; rw [if_pos q]; exact rlx_at _ _ _ (h1.2 _ g.1.1).2
        have a1 := rl1_le K G t (rlT K G r t) (kO K t)
        have a3 := rlT_le K G r t (kO K t)
        show rl2 _ _ _ _ _ ≤ _
        omega
    · obtain ⟨a1, a2⟩ := ih (by omega) t (by omega)
      have b1 := Nat.le_trans (rl2_le K G n (rl1 K G n (rlT K G r n)) (kO K t)) (rl1_le K G n (rlT K G r n) (kO K t))
      have b2 := Nat.le_trans (rl2_le K G n (rl1 K G n (rlT K G r n)) (kF K t)) (rl1_le K G n (rlT K G r n) (kF K t))
      constructor
      · intro q; have := a1 q; show rl2 _ _ _ _ _ ≤ _; omega
      · intro q; have := a2 q; show rl2 _ _ _ _ _ ≤ _; omega
theorem rlT_E {K : tK} {G : tG} (hI : kInv K) {s : Nat} {r : Nat → Nat} (hs : s < kD K) (h : rOK K G s r) {u v w : Nat} (hE : Eg K G u v w) : rlT K G r (kT K) v ≤ r u + w := by
  obtain ⟨t, ht, rfl, hE⟩ := hE
  obtain ⟨a1, a2⟩ := rlT_edge hI hs h (kT K) (Nat.le_refl _) t ht
  rcases hE with ⟨p1, rfl, rfl⟩ | ⟨p1, rfl, rfl⟩
  · exact a1 p1
  · exact a2 p1
def stl (K : tK) (G : tG) (s : Nat) (r : Nat → Nat) (k : Nat) : Prop := ∀ d, d < kD K → rkG K G s d ≤ k → r d = dG K G s d
theorem stl_up {K : tK} {G : tG} (hI : kInv K) (hG : gI K G) {s k : Nat} {r : Nat → Nat} (hs : s < kD K) (h : rOK K G s r) (hk : stl K G s r k) : stl K G s (rlT K G r (kT K)) (k + 1) := by
  intro d hd hr
  have h1 := rlT_ok hI hs h (kT K) (Nat.le_refl _)
  have h2 := h1.2 d hd
  by_cases e : dG K G s d < 9999
  · rcases dG_last hI hG hs hd e with rfl | ⟨m, w, g1, g2, g3, g4, g5⟩
    · rw [dG_diag]; exact h1.1
    · have h3 := rk_lt (G := G) (u := s) (v := d) g1 (by omega)
      have h4 := hk m g1 (by omega)
      have h5 := rlT_E hI hs h g2
      omega
  · omega
theorem stl_0 {K : tK} {G : tG} (hI : kInv K) (hG : gI K G) {s : Nat} {r : Nat → Nat} (hs : s < kD K) (h : rOK K G s r) : stl K G s r 0 := by
  intro d hd hr
  have h2 := h.2 d hd
  by_cases e : dG K G s d < 9999
  · rcases dG_last hI hG hs hd e with rfl | ⟨m, w, g1, g2, g3, g4, g5⟩
    · rw [dG_diag]; exact h.1
    · have h3 := rk_lt (G := G) (u := s) (v := d) g1 (by omega)
      omega
  · omega
/-- a round that changes nothing ends it -/
theorem stl_all {K : tK} {G : tG} (hI : kInv K) (hG : gI K G) {s : Nat} {r : Nat → Nat} (hs : s < kD K) (h : rOK K G s r) (he : ∀ d, d < kD K → rlT K G r (kT K) d = r d) : ∀ d, d < kD K → r d = dG K G s d := by
  have key : ∀ k, stl K G s r k := by
    intro k
    induction k with
    | zero => exact stl_0 hI hG hs h
    | succ k ih =>
      intro d hd hr
      rw [← he d hd]
      exact stl_up hI hG hs h ih d hd hr
  exact fun d hd => key _ d hd (rk_le K G s d)
theorem stl_8 {K : tK} {G : tG} (hI : kInv K) {s : Nat} {r : Nat → Nat} (h : stl K G s r 8) : ∀ d, d < kD K → r d = dG K G s d := by
  intro d hd
  have h1 := rk_le K G s d
  have h2 := (kI_n hI).1
  exact h d hd (by omega)
