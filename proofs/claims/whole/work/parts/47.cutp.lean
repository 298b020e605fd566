/-! CUTS: what can be reached -/
theorem dG_E {K K' : tK} {G G' : tG} (hI : kInv K) (hI' : kInv K') (hD : kD K' = kD K) (hE : ∀ u v x, Eg K G u v x ↔ Eg K' G' u v x) {u v : Nat} (hu : u < kD K) (hv : v < kD K) : dG K G u v = dG K' G' u v := by
  have h1 := dG_isD (G := G) hI hu hv
  have h2 := dG_isD (K := K') (G := G') hI' (u := u) (v := v) (by omega) (by omega)
  have e : Eg K G = Eg K' G' := by
    funext u v x
    exact propext (hE u v x)
  rw [e] at h1
  exact isD_eq h1 h2
/-- a graph without a tube -/
def gX (G : tG) (w : Int) : tG := (G.1, fun t => G.2.1 t && !decide ((t : Int) = w), fun t => G.2.2 t && !decide ((t : Int) = w))
def zA (Z : Nat → Bool) (d : Nat) : Nat → Bool := fun i => if i = d then true else Z i
def z1 (K : tK) (G : tG) (t : Nat) (Z : Nat → Bool) : Nat → Bool := if (G.2.1 t && Z (kF K t)) = true then zA Z (kO K t) else Z
def z2 (K : tK) (G : tG) (t : Nat) (Z : Nat → Bool) : Nat → Bool := if (G.2.2 t && Z (kO K t)) = true then zA Z (kF K t) else Z
def zT (K : tK) (G : tG) (Z : Nat → Bool) : Nat → Nat → Bool
  | 0 => Z
  | t + 1 => z2 K G t (z1 K G t (zT K G Z t))
def zR (K : tK) (G : tG) (s : Nat) : Nat → Nat → Bool
  | 0 => fun d => decide (d = s)
  | i + 1 => zT K G (zR K G s i) (kT K)
theorem zA_mono {Z : Nat → Bool} {d i : Nat} (h : Z i = true) : zA Z d i = true := by unfold zA; split <;> trivial
theorem z1_mono (K : tK) (G : tG) (t : Nat) {Z : Nat → Bool} {i : Nat} (h : Z i = true) : z1 K G t Z i = true := by
  unfold z1; split
  · exact zA_mono h
  · exact h
theorem z2_mono (K : tK) (G : tG) (t : Nat) {Z : Nat → Bool} {i : Nat} (h : Z i = true) : z2 K G t Z i = true := by
  unfold z2; split
  · exact zA_mono h
  · exact h
theorem zT_mono (K : tK) (G : tG) {Z : Nat → Bool} {i : Nat} (h : Z i = true) : ∀ n, zT K G Z n i = true
  | 0 => h
  | n + 1 => z2_mono K G n (z1_mono K G n (zT_mono K G h n))
theorem zT_edge (K : tK) (G : tG) {Z : Nat → Bool} : ∀ n t, t < n → (G.2.1 t = true → Z (kF K t) = true → zT K G Z n (kO K t) = true) ∧ (G.2.2 t = true → Z (kO K t) = true → zT K G Z n (kF K t) = true)
  | 0, t, ht => by omega
  | n + 1, t, ht => by
    by_cases e : t = n
    · subst e
      refine ⟨fun h1 h2 => z2_mono K G t ?_, fun h1 h2 => ?_⟩
      · unfold z1
        rw [if_pos (by rw [h1, zT_mono K G h2 t]; rfl)]
        unfold zA; rw [if_pos rfl]
      · show z2 K G t (z1 K G t (zT K G Z t)) (kF K t) = true
        unfold z2
        rw [if_pos (by rw [h1, z1_mono K G t (zT_mono K G h2 t)]; rfl)]
        unfold zA; rw [if_pos rfl]
    · obtain ⟨a, b⟩ := zT_edge K G (Z := Z) n t (by omega)
      exact ⟨fun h1 h2 => z2_mono K G n (z1_mono K G n (a h1 h2)), fun h1 h2 => z2_mono K G n (z1_mono K G n (b h1 h2))⟩
def zOK (K : tK) (G : tG) (s : Nat) (Z : Nat → Bool) : Prop := Z s = true ∧ ∀ d, Z d = true → d < kD K ∧ dG K G s d < 9999
theorem zOK_add {K : tK} {G : tG} (hI : kInv K) (hG : gI K G) {s : Nat} (hs : s < kD K) {Z : Nat → Bool} (h : zOK K G s Z) {m v w : Nat} (hE : Eg K G m v w) (hm : Z m = true) : zOK K G s (zA Z v) := by
  obtain ⟨h1, h2⟩ := h
  refine ⟨zA_mono h1, fun d hd => ?_⟩
  unfold zA at hd
  by_cases e : d = v
  · subst e
    obtain ⟨r1, r2, r3, r4⟩ := Eg_rng hI hG hE
    have h3 := dG_edge hI hs hE
    have h4 := (h2 m hm).2
    have h5 := dG_rng hI hG hs r1
    exact ⟨r2, by omega⟩
  · rw [if_neg e] at hd
    exact h2 d hd
theorem z1_ok {K : tK} {G : tG} (hI : kInv K) (hG : gI K G) {s t : Nat} (hs : s < kD K) (ht : t < kT K) {Z : Nat → Bool} (h : zOK K G s Z) : zOK K G s (z1 K G t Z) := by
  unfold z1
  split
  · rename_i q
    rw [Bool.and_eq_true] at q
    exact zOK_add hI hG hs h (m := kF K t) (w := G.1 t) ⟨t, ht, rfl, Or.inl ⟨q.1, rfl, rfl⟩⟩ q.2
  · exact h
theorem z2_ok {K : tK} {G : tG} (hI : kInv K) (hG : gI K G) {s t : Nat} (hs : s < kD K) (ht : t < kT K) {Z : Nat → Bool} (h : zOK K G s Z) : zOK K G s (z2 K G t Z) := by
  unfold z2
  split
  · rename_i q
    rw [Bool.and_eq_true] at q
    exact zOK_add hI hG hs h (m := kO K t) (w := G.1 t) ⟨t, ht, rfl, Or.inr ⟨q.1, rfl, rfl⟩⟩ q.2
  · exact h
theorem zT_ok {K : tK} {G : tG} (hI : kInv K) (hG : gI K G) {s : Nat} (hs : s < kD K) {Z : Nat → Bool} (h : zOK K G s Z) : ∀ n, n ≤ kT K → zOK K G s (zT K G Z n)
  | 0, _ => h
  | n + 1, hn => z2_ok hI hG hs (by omega) (z1_ok hI hG hs (by omega) (zT_ok hI hG hs h n (by omega)))
theorem zR_ok {K : tK} {G : tG} (hI : kInv K) (hG : gI K G) {s : Nat} (hs : s < kD K) : ∀ i, zOK K G s (zR K G s i)
  | 0 => ⟨decide_eq_true rfl, fun d hd => by
      have e : d = s := of_decide_eq_true hd
      subst e
      rw [dG_diag]
      exact ⟨hs, by omega⟩⟩
  | i + 1 => zT_ok hI hG hs (zR_ok hI hG hs i) (kT K) (Nat.le_refl _)
theorem zR_rk {K : tK} {G : tG} (hI : kInv K) (hG : gI K G) {s : Nat} (hs : s < kD K) : ∀ i d, d < kD K → dG K G s d < 9999 → rkG K G s d ≤ i → zR K G s i d = true
  | 0, d, hd, h, hr => by
    rcases dG_last hI hG hs hd h with rfl | ⟨m, w, h1, h2, h3, h4, h5⟩
    · exact decide_eq_true rfl
    · have := rk_lt (G := G) (u := s) (v := d) h1 (by omega)
      omega
  | i + 1, d, hd, h, hr => by
    rcases dG_last hI hG hs hd h with rfl | ⟨m, w, h1, h2, h3, h4, h5⟩
    · exact (zR_ok hI hG hs (i + 1)).1
    · have h6 := rk_lt (G := G) (u := s) (v := d) h1 (by omega)
      have h7 := zR_rk hI hG hs i m h1 (by omega) (by omega)
      obtain ⟨t, ht, -, hc⟩ := h2
      obtain ⟨e1, e2⟩ := zT_edge K G (Z := zR K G s i) (kT K) t ht
      rcases hc with ⟨a, b, c⟩ | ⟨a, b, c⟩
      · have := e1 a (by rw [b]; exact h7)
        rw [c] at this; exact this
      · have := e2 a (by rw [b]; exact h7)
        rw [c] at this; exact this
theorem zR_8 {K : tK} {G : tG} (hI : kInv K) (hG : gI K G) {s d : Nat} (hs : s < kD K) (hd : d < kD K) : zR K G s 8 d = decide (dG K G s d < 9999) := by
  have n0 := kI_n hI
  by_cases q : dG K G s d < 9999
  · rw [decide_eq_true q]
    exact zR_rk hI hG hs 8 d hd q (by have := rk_le K G s d; omega)
  · rw [decide_eq_false q]
    cases e : zR K G s 8 d with
    | false => rfl
    | true => exact absurd ((zR_ok hI hG hs 8).2 d e).2 q
/-! CUTS: flows -/
def fc (b : Bool) : Int := if b = true then 1 else 0
def fF (K : tK) (G : tG) (f : Nat → Int) : Prop := ∀ t, t < kT K → -fc (G.2.2 t) ≤ f t ∧ f t ≤ fc (G.2.1 t)
/-- what is left -/
def rG (G : tG) (f : Nat → Int) : tG := (fun _ => 1, fun t => decide (f t < fc (G.2.1 t)), fun t => decide (-f t < fc (G.2.2 t)))
theorem rG_I (K : tK) (G : tG) (f : Nat → Int) : gI K (rG G f) := fun t _ => ⟨Nat.le_refl 1, by show 1 ≤ 90; omega⟩
def i1 (p : Prop) [Decidable p] (x : Int) : Int := if p then x else 0
/-- what leaves a desk -/
def nt (K : tK) (f : Nat → Int) (d : Nat) : Nat → Int
  | 0 => 0
  | t + 1 => nt K f d t + i1 (kF K t = d) (f t) - i1 (kO K t = d) (f t)
def nS (K : tK) (f : Nat → Int) (S : Nat → Bool) : Nat → Int
  | 0 => 0
  | t + 1 => nS K f S t + i1 (S (kF K t) = true) (f t) - i1 (S (kO K t) = true) (f t)
def sI8 (h : Nat → Int) : Nat → Int
  | 0 => 0
  | n + 1 => sI8 h n + h n
theorem sI8_add (h k : Nat → Int) : ∀ n, sI8 (fun i => h i + k i) n = sI8 h n + sI8 k n
  | 0 => rfl
  | n + 1 => by simp only [sI8]; rw [sI8_add h k n]; omega
theorem sI8_cong {h k : Nat → Int} : ∀ {n : Nat}, (∀ i, i < n → h i = k i) → sI8 h n = sI8 k n
  | 0, _ => rfl
  | n + 1, e => by simp only [sI8]; rw [sI8_cong (fun i hi => e i (by omega)), e n (by omega)]
theorem sI8_one (S : Nat → Bool) (a : Nat) (x : Int) : ∀ n, sI8 (fun d => i1 (S d = true) (i1 (a = d) x)) n = if a < n then i1 (S a = true) x else 0
  | 0 => by rw [if_neg (by omega)]; rfl
  | n + 1 => by
    simp only [sI8]
    rw [sI8_one S a x n]
    by_cases e : a = n
    · subst e
      rw [if_neg (by omega), if_pos (by omega)]
      simp [i1]
    · have e2 : i1 (S n = true) (i1 (a = n) x) = 0 := by simp [i1, e]
      rw [e2]
      by_cases c : a < n
      · rw [if_pos c, if_pos (by omega)]; omega
      · rw [if_neg c, if_neg (by omega)]; omega
theorem i1_add (p : Prop) [Decidable p] (x y : Int) : i1 p (x + y) = i1 p x + i1 p y := by unfold i1; split <;> omega
theorem i1_sub (p : Prop) [Decidable p] (x y : Int) : i1 p (x - y) = i1 p x - i1 p y := by unfold i1; split <;> omega
theorem i1_0 (p : Prop) [Decidable p] : i1 p 0 = 0 := by unfold i1; split <;> rfl
theorem sI8_sub (h k : Nat → Int) : ∀ n, sI8 (fun i => h i - k i) n = sI8 h n - sI8 k n
  | 0 => rfl
  | n + 1 => by simp only [sI8]; rw [sI8_sub h k n]; omega
theorem nS_sum {K : tK} (hI : kInv K) (f : Nat → Int) (S : Nat → Bool) : ∀ n, n ≤ kT K → nS K f S n = sI8 (fun d => i1 (S d = true) (nt K f d n)) (kD K)
  | 0, _ => by
    show (0 : Int) = _
    have : ∀ m, sI8 (fun d => i1 (S d = true) (nt K f d 0)) m = 0 := by
      intro m
      induction m with
      | zero => rfl
      | succ m ih =>
        show sI8 _ m + i1 _ 0 = 0
        rw [ih, i1_0]; rfl
    rw [this]
  | n + 1, hn => by
    have g := kI_t hI (show n < kT K by omega)
    have e : sI8 (fun d => i1 (S d = true) (nt K f d (n + 1))) (kD K) = sI8 (fun d => (i1 (S d = true) (nt K f d n) + i1 (S d = true) (i1 (kF K n = d) (f n))) - i1 (S d = true) (i1 (kO K n = d) (f n))) (kD K) := by
      apply sI8_cong
      intro d _
      simp only [nt]
      rw [i1_sub, i1_add]
    rw [e, sI8_sub (fun d => i1 (S d = true) (nt K f d n) + i1 (S d = true) (i1 (kF K n = d) (f n))), sI8_add (fun d => i1 (S d = true) (nt K f d n)), sI8_one, sI8_one, if_pos g.1.1, if_pos g.1.2.1, ← nS_sum hI f S n (by omega)]
    rfl
/-- all that goes in goes out, but at a and b -/
def cons (K : tK) (f : Nat → Int) (a b : Nat) (v : Int) : Prop := ∀ d, nt K f d (kT K) = i1 (d = a) v - i1 (d = b) v
theorem cons_S {K : tK} (hI : kInv K) {f : Nat → Int} {a b : Nat} {v : Int} (h : cons K f a b v) (ha : a < kD K) {S : Nat → Bool} (h1 : S a = true) (h2 : S b = false) : nS K f S (kT K) = v := by
  rw [nS_sum hI f S (kT K) (Nat.le_refl _)]
  have e : sI8 (fun d => i1 (S d = true) (nt K f d (kT K))) (kD K) = sI8 (fun d => i1 (S d = true) (i1 (a = d) v) - i1 (S d = true) (i1 (b = d) v)) (kD K) := by
    apply sI8_cong
    intro d _
    rw [h d, i1_sub]
    have e1 : i1 (d = a) v = i1 (a = d) v := by unfold i1; simp only [eq_comm]
    have e2 : i1 (d = b) v = i1 (b = d) v := by unfold i1; simp only [eq_comm]
    rw [e1, e2]
  rw [e, sI8_sub (fun d => i1 (S d = true) (i1 (a = d) v)), sI8_one, sI8_one, if_pos ha]
  have e3 : i1 (S a = true) v = v := if_pos h1
  have e4 : i1 (S b = true) v = 0 := if_neg (by simp [h2])
  rw [e3, e4]
  split <;> omega
/-- no more than goes across -/
def clS (K : tK) (G : tG) (f : Nat → Int) (S : Nat → Bool) : Prop := ∀ t, t < kT K → (S (kF K t) = true → S (kO K t) = false → ¬ f t < fc (G.2.1 t)) ∧ (S (kO K t) = true → S (kF K t) = false → ¬ -f t < fc (G.2.2 t))
theorem nS_le {K : tK} {G : tG} {f h : Nat → Int} {S : Nat → Bool} (hh : fF K G h) (hf : clS K G f S) : ∀ n, n ≤ kT K → nS K h S n ≤ nS K f S n
  | 0, _ => Int.le_refl _
  | n + 1, hn => by
    have ih := nS_le hh hf n (by omega)
    obtain ⟨h1, h2⟩ := hh n (by omega)
    obtain ⟨c1, c2⟩ := hf n (by omega)
    simp only [nS]
    cases e1 : S (kF K n) <;> cases e2 : S (kO K n) <;> simp only [i1, if_true, if_false, reduceCtorEq, ↓reduceIte]
    · omega
    · have := c2 e2 e1; omega
    · have := c1 e1 e2; omega
    · omega
def isV (K : tK) (G : tG) (a b : Nat) (v : Int) : Prop := ∃ f S, fF K G f ∧ cons K f a b v ∧ clS K G f S ∧ S a = true ∧ S b = false
theorem isV_le {K : tK} {G : tG} (hI : kInv K) {a b : Nat} (ha : a < kD K) {v w : Int} (h : isV K G a b v) (h' : isV K G a b w) : w ≤ v := by
  obtain ⟨f, S, f1, f2, f3, f4, f5⟩ := h
  obtain ⟨k, T, k1, k2, k3, k4, k5⟩ := h'
  have e1 := cons_S hI f2 ha f4 f5
  have e2 := cons_S hI k2 ha f4 f5
  have := nS_le k1 f3 (kT K) (Nat.le_refl _)
  omega
theorem isV_eq {K : tK} {G : tG} (hI : kInv K) {a b : Nat} (ha : a < kD K) {v w : Int} (h : isV K G a b v) (h' : isV K G a b w) : v = w := by
  have := isV_le hI ha h h'
  have := isV_le hI ha h' h
  omega
noncomputable def cutV (K : tK) (G : tG) (a b : Nat) : Int := by
  classical exact if h : ∃ v, isV K G a b v then Classical.choose h else 0
theorem cutV_of {K : tK} {G : tG} (hI : kInv K) {a b : Nat} (ha : a < kD K) {v : Int} (h : isV K G a b v) : cutV K G a b = v := by
  unfold cutV
  rw [dif_pos ⟨v, h⟩]
  exact isV_eq hI ha (Classical.choose_spec (⟨v, h⟩ : ∃ v, isV K G a b v)) h
/-- one tube more -/
def fl (f : Nat → Int) (t : Nat) (e : Int) : Nat → Int := fun i => if i = t then f i + e else f i
theorem nt_fl (K : tK) (f : Nat → Int) (t : Nat) (e : Int) (d : Nat) : ∀ n, nt K (fl f t e) d n = nt K f d n + (if t < n then i1 (kF K t = d) e - i1 (kO K t = d) e else 0)
  | 0 => by rw [if_neg (by omega)]; rfl
  | n + 1 => by
    simp only [nt]
    rw [nt_fl K f t e d n]
    by_cases c : n = t
    · subst c
      have e1 : fl f n e n = f n + e := if_pos rfl
      rw [e1, i1_add, i1_add, if_neg (by omega), if_pos (by omega)]
      omega
    · have e1 : fl f t e n = f n := if_neg c
      rw [e1]
      by_cases c2 : t < n
      · rw [if_pos c2, if_pos (by omega)]; omega
      · rw [if_neg c2, if_neg (by omega)]; omega
theorem isV_of {K : tK} {G : tG} (hI : kInv K) {f : Nat → Int} {a b : Nat} {v : Int} (ha : a < kD K) (h1 : fF K G f) (h2 : cons K f a b v) (h3 : ¬ dG K (rG G f) a b < 9999) : isV K G a b v := by
  have hR := rG_I K G f
  refine ⟨f, fun d => decide (d < kD K ∧ dG K (rG G f) a d < 9999), h1, h2, ?_, ?_, decide_eq_false (fun h => h3 h.2)⟩
  · intro t ht
    have g := kI_t hI ht
    refine ⟨fun s1 s2 c => ?_, fun s1 s2 c => ?_⟩
    · have s1' := of_decide_eq_true s1
      have s2' := of_decide_eq_false s2
      have hE : Eg K (rG G f) (kF K t) (kO K t) 1 := ⟨t, ht, rfl, Or.inl ⟨decide_eq_true c, rfl, rfl⟩⟩
      have e1 := dG_edge hI ha hE
      have e2 := dG_rng hI hR ha s1'.1
      exact s2' ⟨g.1.2.1, by omega⟩
    · have s1' := of_decide_eq_true s1
      have s2' := of_decide_eq_false s2
      have hE : Eg K (rG G f) (kO K t) (kF K t) 1 := ⟨t, ht, rfl, Or.inr ⟨decide_eq_true c, rfl, rfl⟩⟩
      have e1 := dG_edge hI ha hE
      have e2 := dG_rng hI hR ha s1'.1
      exact s2' ⟨g.1.1, by omega⟩
  · apply decide_eq_true
    rw [dG_diag]
    exact ⟨ha, by omega⟩
