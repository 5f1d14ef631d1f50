/-! unlike stretches: encodings, first ones, the table -/
noncomputable def ind (P : Prop) : Int := @ite Int P (Classical.propDecidable P) 1 0
theorem ind_t {P : Prop} (h : P) : ind P = 1 := by unfold ind; rw [if_pos h]
theorem ind_f {P : Prop} (h : ¬ P) : ind P = 0 := by unfold ind; rw [if_neg h]
theorem ind_b (P : Prop) : 0 ≤ ind P ∧ ind P ≤ 1 := by
  by_cases h : P
  · rw [ind_t h]; omega
  · rw [ind_f h]; omega
theorem ind_c {P P2 : Prop} (h : P ↔ P2) : ind P = ind P2 := by
  by_cases hp : P
  · rw [ind_t hp, ind_t (h.mp hp)]
  · rw [ind_f hp, ind_f (fun z => hp (h.mpr z))]
/-- the stretches of m letters from p and from q are alike -/
def alk (f : Int → Int) (m p q : Int) : Prop := ∀ t : Int, 0 ≤ t → t < m → f (p + t) = f (q + t)
/-- none ahead of p is like that from p -/
def frsh (f : Int → Int) (m p : Int) : Prop := ∀ q : Int, 0 ≤ q → q < p → ¬ alk f m q p
/-- how many unlike ones begin ahead of w -/
noncomputable def unl (f : Int → Int) (m w : Int) : Int := isum (fun p => ind (frsh f m p)) w
theorem unl_0 (f : Int → Int) (m : Int) {w : Int} (h : w ≤ 0) : unl f m w = 0 := isum_neg _ h
theorem unl_s (f : Int → Int) (m : Int) {w : Int} (h : 0 ≤ w) : unl f m (w + 1) = unl f m w + ind (frsh f m w) := isum_s _ h
theorem unl_b (f : Int → Int) (m : Int) {w : Int} (h : 0 ≤ w) : 0 ≤ unl f m w ∧ unl f m w ≤ w := by
  have := isum_b (f := fun p => ind (frsh f m p)) (b := 1) h (fun k _ _ => ind_b _)
  rw [Int.mul_one] at this
  exact this
theorem unl_congr {f g : Int → Int} {m w : Int} (h : ∀ j : Int, 0 ≤ j → j < w + m - 1 → f j = g j) : unl f m w = unl g m w := by
  refine isum_congr (fun p h0 h1 => ind_c ?_)
  unfold frsh alk
  constructor
  · intro a q b1 b2 b3
    exact a q b1 b2 (fun t c1 c2 => by rw [h _ (by omega) (by omega), h _ (by omega) (by omega)]; exact b3 t c1 c2)
  · intro a q b1 b2 b3
    exact a q b1 b2 (fun t c1 c2 => by rw [← h _ (by omega) (by omega), ← h _ (by omega) (by omega)]; exact b3 t c1 c2)
/-- a stretch as a number of the base b -/
def encP (b : Int) (f : Int → Int) (p : Int) : Nat → Int
  | 0 => 0
  | j + 1 => encP b f p j * b + f (p + (j : Int))
def enc (b : Int) (f : Int → Int) (p j : Int) : Int := encP b f p j.toNat
def pw (b : Int) : Nat → Int
  | 0 => 1
  | j + 1 => pw b j * b
theorem enc_0 (b : Int) (f : Int → Int) (p : Int) : enc b f p 0 = 0 := rfl
theorem enc_s (b : Int) (f : Int → Int) (p : Int) {j : Int} (h : 0 ≤ j) : enc b f p (j + 1) = enc b f p j * b + f (p + j) := by
  obtain ⟨n, rfl⟩ := Int.eq_ofNat_of_zero_le h
  unfold enc
  rw [toNat_s h, show ((n : Int)).toNat = n from by omega]
  rfl
theorem encP_b {b : Int} (hb : b = 8 ∨ b = 7) {f : Int → Int} {p : Int} (n : Nat) (h : ∀ t : Int, 0 ≤ t → t < n → 1 ≤ f (p + t) ∧ f (p + t) ≤ 6) : 0 ≤ encP b f p n ∧ encP b f p n < pw b n ∧ (0 < n → 0 < encP b f p n) := by
  induction n with
  | zero => exact ⟨Int.le_refl 0, by show (0 : Int) < 1; omega, fun q => absurd q (by omega)⟩
  | succ n ih =>
    have e := ih (fun t h0 h1 => h t h0 (by omega))
    have d := h n (by omega) (by omega)
    show 0 ≤ encP b f p n * b + f (p + n) ∧ encP b f p n * b + f (p + n) < pw b n * b ∧ (0 < n + 1 → 0 < encP b f p n * b + f (p + n))
    rcases hb with q | q <;> subst q <;> omega
theorem encP_inj {b : Int} (hb : b = 8 ∨ b = 7) {f : Int → Int} {p q : Int} (n : Nat) (h : ∀ t : Int, 0 ≤ t → t < n → 1 ≤ f (p + t) ∧ f (p + t) ≤ 6) (h2 : ∀ t : Int, 0 ≤ t → t < n → 1 ≤ f (q + t) ∧ f (q + t) ≤ 6) : encP b f p n = encP b f q n ↔ ∀ t : Int, 0 ≤ t → t < n → f (p + t) = f (q + t) := by
  induction n with
  | zero => exact ⟨fun _ t h0 h1 => absurd h1 (by omega), fun _ => rfl⟩
  | succ n ih =>
    have e := ih (fun t h0 h1 => h t h0 (by omega)) (fun t h0 h1 => h2 t h0 (by omega))
    have d1 := h n (by omega) (by omega)
    have d2 := h2 n (by omega) (by omega)
    have w : encP b f p n * b + f (p + n) = encP b f q n * b + f (q + n) ↔ encP b f p n = encP b f q n ∧ f (p + n) = f (q + n) := by
      constructor
      · intro z
        rcases hb with y | y <;> subst y <;> omega
      · rintro ⟨z1, z2⟩; rw [z1, z2]
    show encP b f p n * b + f (p + n) = encP b f q n * b + f (q + n) ↔ _
    rw [w, e]
    constructor
    · rintro ⟨z1, z2⟩ t h0 h1
      by_cases ht : t = n
      · rw [ht]; exact z2
      · exact z1 t h0 (by omega)
    · intro z
      exact ⟨fun t h0 h1 => z t h0 (by omega), z n (by omega) (by omega)⟩
theorem enc_alk {b : Int} (hb : b = 8 ∨ b = 7) {f : Int → Int} {m p q : Int} (hm : 0 ≤ m) (h : ∀ t : Int, 0 ≤ t → t < m → 1 ≤ f (p + t) ∧ f (p + t) ≤ 6) (h2 : ∀ t : Int, 0 ≤ t → t < m → 1 ≤ f (q + t) ∧ f (q + t) ≤ 6) : enc b f p m = enc b f q m ↔ alk f m p q := by
  obtain ⟨n, rfl⟩ := Int.eq_ofNat_of_zero_le hm
  unfold enc
  rw [show ((n : Int)).toNat = n from by omega]
  exact encP_inj hb n h h2
theorem encP_roll (f : Int → Int) (p : Int) (n : Nat) : encP 8 f p (n + 1) = f p * pw 8 n + encP 8 f (p + 1) n := by
  induction n with
  | zero => show (0 : Int) * 8 + f (p + ((0 : Nat) : Int)) = f p * 1 + 0; rw [show p + ((0 : Nat) : Int) = p from by omega]; omega
  | succ n ih =>
    show encP 8 f p (n + 1) * 8 + f (p + ((n + 1 : Nat) : Int)) = f p * (pw 8 n * 8) + (encP 8 f (p + 1) n * 8 + f (p + 1 + (n : Int)))
    rw [ih, show p + ((n + 1 : Nat) : Int) = p + 1 + (n : Int) from by omega, Int.add_mul, Int.mul_assoc]
    omega
theorem roll {f : Int → Int} {p : Int} {n : Nat} (h : ∀ t : Int, 0 ≤ t → t < n + 1 → 1 ≤ f (p + t) ∧ f (p + t) ≤ 6) : (encP 8 f p n * 8 + f (p + n)) % pw 8 n = encP 8 f (p + 1) n := by
  have e := encP_roll f p n
  have b := encP_b (b := 8) (Or.inl rfl) (f := f) (p := p + 1) n (fun t h0 h1 => by rw [show p + 1 + t = p + (t + 1) from by omega]; exact h (t + 1) (by omega) (by omega))
  have e2 : encP 8 f p n * 8 + f (p + n) = f p * pw 8 n + encP 8 f (p + 1) n := e
  rw [e2, Int.add_comm, Int.add_mul_emod_self_right]
  exact Int.emod_eq_of_lt b.1 b.2.1
theorem pw_8 : ∀ n : Nat, n < 21 → 1 ≤ pw 8 n ∧ pw 8 n ≤ 1152921504606846976 ∧ pw 8 n = ((2 ^ (3 * n) : Nat) : Int) := by decide
theorem pw_7 : ∀ n : Nat, n < 21 → 1 ≤ pw 7 n ∧ pw 7 n ≤ 1152921504606846976 := by decide
theorem pw_mono : ∀ n : Nat, n < 21 → ∀ k : Nat, k < 21 → k ≤ n → pw 8 k ≤ pw 8 n := by decide
/-- the table: seats T, hash H, keys Kp, c of them -/
noncomputable def nzc (T : Int → Int) : Int := isum (fun s => ind (T s ≠ 0)) 4096
def chn (H : Int → Int) (T : Int → Int) (x s : Int) : Prop := ∀ e : Int, 0 ≤ e → e < (s - H x) % 4096 → T ((H x + e) % 4096) ≠ 0
def TB (H T : Int → Int) (Kp : Int → Prop) (c : Int) : Prop := (∀ s : Int, 0 ≤ s → s < 4096 → T s ≠ 0 → Kp (T s)) ∧ (∀ x : Int, Kp x → 0 < x ∧ ∃ s : Int, 0 ≤ s ∧ s < 4096 ∧ T s = x ∧ chn H T x s) ∧ nzc T = c
theorem isum_one {f g : Int → Int} {s : Int} (hs : 0 ≤ s) (h : ∀ j : Int, j ≠ s → g j = f j) (h1 : g s = f s + 1) : ∀ n : Nat, isum g n = isum f n + if s < n then 1 else 0 := by
  intro n
  induction n with
  | zero => rw [if_neg (by omega)]; rfl
  | succ n ih =>
    rw [show (((n + 1 : Nat)) : Int) = (n : Int) + 1 from by omega, isum_s _ (by omega), isum_s _ (by omega), ih]
    by_cases hn : (n : Int) = s
    · rw [hn, h1, if_neg (by omega), if_pos (by omega)]; omega
    · rw [h n hn]
      by_cases hl : s < (n : Int)
      · rw [if_pos hl, if_pos (by omega)]; omega
      · rw [if_neg hl, if_neg (by omega)]; omega
theorem TB_put {H T : Int → Int} {Kp : Int → Prop} {c x s : Int} (h : TB H T Kp c) (h0 : 0 ≤ s) (h1 : s < 4096) (hz : T s = 0) (hx : 0 < x) (hc : chn H T x s) : TB H (zup T s x) (fun y => Kp y ∨ y = x) (c + 1) := by
  have nz : ∀ j : Int, T j ≠ 0 → zup T s x j = T j := fun j hj => zup_ne T x (fun z => hj (by rw [z]; exact hz))
  refine ⟨fun j j0 j1 hj => ?_, fun y hy => ?_, ?_⟩
  · by_cases hjs : j = s
    · rw [hjs, zup_eq]; exact Or.inr rfl
    · rw [zup_ne T x hjs] at hj ⊢
      exact Or.inl (h.1 j j0 j1 hj)
  · rcases hy with hy | hy
    · obtain ⟨a1, w, a2, a3, a4, a5⟩ := h.2.1 y hy
      refine ⟨a1, w, a2, a3, by rw [nz w (by rw [a4]; omega), a4], fun e e0 e1 => ?_⟩
      have := a5 e e0 e1
      rw [nz _ this]; exact this
    · subst hy
      refine ⟨hx, s, h0, h1, zup_eq _ _ _, fun e e0 e1 => ?_⟩
      have := hc e e0 e1
      rw [nz _ this]; exact this
  · have := isum_one (f := fun j => ind (T j ≠ 0)) (g := fun j => ind (zup T s x j ≠ 0)) h0 (fun j hj => by show ind _ = ind _; rw [zup_ne T x hj]) (by show ind _ = ind _ + 1; rw [zup_eq, ind_t (by omega), ind_f (fun z => z hz)]; rfl) 4096
    have e : nzc T = c := h.2.2
    unfold nzc at e ⊢
    rw [show (4096 : Int) = ((4096 : Nat) : Int) from rfl, this, if_pos (by omega)]
    rw [show (4096 : Int) = ((4096 : Nat) : Int) from rfl] at e
    rw [e]
theorem TB_empty {H T : Int → Int} {Kp : Int → Prop} {c : Int} (h : TB H T Kp c) (hc : c < 4096) : ∃ s : Int, 0 ≤ s ∧ s < 4096 ∧ T s = 0 := by
  apply Classical.byContradiction
  intro hn
  have e : nzc T = isum (fun _ => 1) 4096 := isum_congr (fun j j0 j1 => ind_t (fun z => hn ⟨j, j0, j1, z⟩))
  have e2 : ∀ n : Nat, isum (fun _ => (1 : Int)) n = n := by
    intro n
    induction n with
    | zero => rfl
    | succ n ih => rw [show (((n + 1 : Nat)) : Int) = (n : Int) + 1 from by omega, isum_s _ (by omega), ih]
  have e3 := e2 4096
  rw [h.2.2] at e
  rw [show (((4096 : Nat)) : Int) = 4096 from rfl] at e3
  omega
theorem TB_0 (H : Int → Int) {T : Int → Int} (h : ∀ s : Int, 0 ≤ s → s < 4096 → T s = 0) : TB H T (fun _ => False) 0 :=
  ⟨fun s h0 h1 h2 => absurd (h s h0 h1) h2, fun x hx => hx.elim, isum_z (fun s h0 h1 => ind_f (fun z => z (h s h0 h1)))⟩
theorem TB_iff {H T : Int → Int} {Kp Kq : Int → Prop} {c d : Int} (h : TB H T Kp c) (e : ∀ x, Kp x ↔ Kq x) (hc : c = d) : TB H T Kq d := by
  subst hc
  exact ⟨fun s h0 h1 h2 => (e _).mp (h.1 s h0 h1 h2), fun x hx => h.2.1 x ((e _).mpr hx), h.2.2⟩
/-- an empty seat on the way: the key isn't in the table -/
theorem TB_out {H T : Int → Int} {Kp : Int → Prop} {c x t : Int} (h : TB H T Kp c) (hH : 0 ≤ H x ∧ H x < 4096) (ht : 0 ≤ t ∧ t < 4096) (hw : ∀ e : Int, 0 ≤ e → e < t → T ((H x + e) % 4096) ≠ x) (hz : T ((H x + t) % 4096) = 0) : ¬ Kp x := by
  intro hx
  obtain ⟨a1, s, a2, a3, a4, a5⟩ := h.2.1 x hx
  have e1 : (H x + (s - H x) % 4096) % 4096 = s := by omega
  rcases Int.lt_trichotomy ((s - H x) % 4096) t with q | q | q
  · exact hw _ (by omega) q (by rw [e1]; exact a4)
  · rw [← q, e1, a4] at hz; omega
  · exact a5 t ht.1 q hz
theorem TB_full {H T : Int → Int} {Kp : Int → Prop} {c x : Int} (h : TB H T Kp c) (hc : c < 4096) (hH : 0 ≤ H x ∧ H x < 4096) (hw : ∀ e : Int, 0 ≤ e → e < 4096 → T ((H x + e) % 4096) ≠ 0) : False := by
  obtain ⟨s, h0, h1, h2⟩ := TB_empty h hc
  have e1 : (H x + (s - H x) % 4096) % 4096 = s := by omega
  exact hw ((s - H x) % 4096) (by omega) (by omega) (by rw [e1]; exact h2)
/-! one step of shortening in place -/
def bsI (f0 f : Int → Int) (g0 k u i : Int) : Prop := ∃ q : List Int, runs f0 (i + 1) = q ++ [u + 1] ∧ wl f k = dropF g0 q ∧ lsum q = i - u ∧ ∀ x ∈ q, 1 ≤ x
theorem bs_n {f0 f : Int → Int} {g0 k u i : Int} (h : bsI f0 f g0 k u i) (hi : 0 ≤ i) (he : f0 i = f0 (i + 1)) : bsI f0 f g0 k (u + 1) (i + 1) := by
  obtain ⟨q, q1, q2, q3, q4⟩ := h
  refine ⟨q, ?_, q2, by omega, q4⟩
  rw [runs_old (by omega) (fun y => y.elim (fun w => by omega) (fun w => w (by rw [show i + 1 - 1 = i from by omega]; exact he.symm))), q1, incL_app]
theorem bs_q {f0 f : Int → Int} {u i : Int} {q : List Int} (q1 : runs f0 (i + 1) = q ++ [u + 1]) (q3 : lsum q = i - u) (q4 : ∀ x ∈ q, 1 ≤ x) (hi : 0 ≤ i) (hu : 0 ≤ u) (hne : f0 i ≠ f0 (i + 1)) : runs f0 (i + 1 + 1) = (q ++ [u + 1]) ++ [0 + 1] ∧ lsum (q ++ [u + 1]) = i + 1 - 0 ∧ ∀ x ∈ q ++ [u + 1], 1 ≤ x := by
  refine ⟨?_, ?_, fun x hx => ?_⟩
  · rw [runs_new (by omega) (Or.inr (by rw [show i + 1 - 1 = i from by omega]; exact fun y => hne y.symm)), q1]; rfl
  · rw [lsum_app, q3, show lsum [u + 1] = u + 1 + 0 from rfl]; omega
  · rcases List.mem_append.mp hx with y | y
    · exact q4 x y
    · rw [List.mem_singleton.mp y]; omega
theorem bs_k {f0 f : Int → Int} {g0 k u i : Int} (h : bsI f0 f g0 k u i) (hi : 0 ≤ i) (hk : 0 ≤ k) (hu : 0 ≤ u) (hne : f0 i ≠ f0 (i + 1)) (hc : g0 ≤ u + 1 ∨ u ≠ i) : bsI f0 (zup f k (u + 1)) g0 (k + 1) 0 (i + 1) := by
  obtain ⟨q, q1, q2, q3, q4⟩ := h
  obtain ⟨a1, a2, a3⟩ := bs_q (f := f) q1 q3 q4 hi hu hne
  refine ⟨q ++ [u + 1], a1, ?_, a2, a3⟩
  rw [wl_put _ _ hk, bs_mid, if_pos ?_, q2]
  rcases hc with y | y
  · exact Or.inl y
  · refine Or.inr (fun z => ?_)
    rw [z, show lsum [] = 0 from rfl] at q3
    omega
theorem bs_s {f0 f : Int → Int} {g0 k u i : Int} (h : bsI f0 f g0 k u i) (hi : 0 ≤ i) (hu : 0 ≤ u) (hne : f0 i ≠ f0 (i + 1)) (hc : u + 1 < g0) (hui : u = i) : bsI f0 f g0 k 0 (i + 1) := by
  obtain ⟨q, q1, q2, q3, q4⟩ := h
  obtain ⟨a1, a2, a3⟩ := bs_q (f := f) q1 q3 q4 hi hu hne
  refine ⟨q ++ [u + 1], a1, ?_, a2, a3⟩
  have hq : q = [] := (lsum_nil q4).mp (by omega)
  rw [bs_mid, if_neg (fun y => y.elim (fun w => by omega) (fun w => w hq)), q2]
theorem bs_ke {f0 f : Int → Int} {g0 k u i : Int} (h : bsI f0 f g0 k u i) (hk : 0 ≤ k) (hc : g0 ≤ u + 1) : wl (zup f k (u + 1)) (k + 1) = sh g0 (runs f0 (i + 1)) := by
  obtain ⟨q, q1, q2, q3, q4⟩ := h
  rw [q1, bs_end, if_pos hc, wl_put _ _ hk, q2]
theorem bs_se {f0 f : Int → Int} {g0 k u i : Int} (h : bsI f0 f g0 k u i) (hc : u + 1 < g0) : wl f k = sh g0 (runs f0 (i + 1)) := by
  obtain ⟨q, q1, q2, q3, q4⟩ := h
  rw [q1, bs_end, if_neg (by omega), q2]
theorem bs_0 {f0 f : Int → Int} (g0 : Int) : bsI f0 f g0 0 0 0 := ⟨[], by rw [runs_new (by omega) (Or.inl rfl)]; rfl, rfl, rfl, fun x hx => (by cases hx)⟩
