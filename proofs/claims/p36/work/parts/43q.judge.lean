/-! THE JUDGE (own work): which HOUR is wrong first; whether a LOT is a WORLD -/
def xvo (s due b : Int) : Int := if due ≤ s ∧ s ≤ due + b then 0 else if s = due - 1 ∨ s = due + b + 1 then 1 else 2
def xvc (s due b : Int) : Int := if s ≤ 0 then 0 else xvo (s - 1) due b
/-- what an HOUR's strokes say of a LOT: so, off by one, or not -/
def xvy (e d : xD) (g : Nat → Int) (h : Nat) : Int := xvc (e 13 h) (xdue d g h) (d 0 1)
def xco (q : Nat → Int) : Nat → Int
  | 0 => 0
  | h + 1 => xco q h + q h
def xbad (q : Nat → Int) (m : Int) (h : Nat) : Bool := decide (q h = 2) || decide (m < xco q (h + 1))
def XFB (q : Nat → Int) (m n z : Int) : Prop := (z = 24 ∧ ∀ h : Nat, (h : Int) < n → xbad q m h = false) ∨ (0 ≤ z ∧ z < n ∧ xbad q m z.toNat = true ∧ ∀ h : Nat, (h : Int) < z → xbad q m h = false)
def xbh (S : Int) (q : Nat → Int) (h : Nat) : Int := if hb S h = 0 then 0 else q h
def xwo (e d : xD) (g : Nat → Int) : Int := if xqu d g (d 0 3).toNat = 0 ∧ (List.range 24).all (fun h => !(xbad (xvy e d g) (d 0 2) h)) = true then 1 else 0
section JUDGE

variable {q q' : Nat → Int} {m n z z' v S : Int} {u k h : Nat} {e d : xD} {g : Nat → Int}
theorem xvo_b {s due b : Int} : 0 ≤ xvo s due b ∧ xvo s due b ≤ 2 := by
  unfold xvo
  split
  · omega
  · split <;> omega
theorem xvc_b {s due b : Int} : 0 ≤ xvc s due b ∧ xvc s due b ≤ 2 := by
  unfold xvc
  split
  · omega
  · exact xvo_b
theorem xvy_b : 0 ≤ xvy e d g h ∧ xvy e d g h ≤ 2 := xvc_b
theorem xvy_0 (he : e 13 h ≤ 0) : xvy e d g h = 0 := if_pos he
theorem XFB_y (h0 : (k : Int) = z) (h24 : k < 24) (hb : xbad q m k = true) (hn : ∀ h, h < k → xbad q m h = false) : XFB q m 24 z := by
  refine Or.inr ⟨by omega, by omega, ?_, fun h hh => hn h (by omega)⟩
  rw [show z.toNat = k by omega]
  exact hb
theorem XFB_e (hn : ∀ h, h < 24 → xbad q m h = false) : XFB q m 24 24 := Or.inl ⟨rfl, fun h hh => hn h (by omega)⟩
theorem xco_cg : ∀ n : Nat, (∀ h, h < n → q h = q' h) → xco q n = xco q' n
  | 0, _ => rfl
  | n + 1, hq => by
    show xco q n + q n = xco q' n + q' n
    rw [xco_cg n (fun h hh => hq h (by omega)), hq n (by omega)]
theorem xbad_cg (hq : ∀ h, h < 24 → q h = q' h) (hh : h < 24) : xbad q m h = xbad q' m h := by
  unfold xbad
  rw [hq h hh, xco_cg (h + 1) (fun j hj => hq j (by omega))]
theorem XFB_cg (hq : ∀ h, h < 24 → q h = q' h) (hf : XFB q m 24 z) : XFB q' m 24 z := by
  rcases hf with ⟨h1, h2⟩ | ⟨h1, h2, h3, h4⟩
  · exact Or.inl ⟨h1, fun h hh => by rw [← xbad_cg hq (by omega)]; exact h2 h hh⟩
  · exact Or.inr ⟨h1, h2, by rw [← xbad_cg hq (by omega)]; exact h3, fun h hh => by rw [← xbad_cg hq (by omega)]; exact h4 h hh⟩
theorem hb_al (h0 : 0 ≤ d 0 0 ∧ d 0 0 ≤ 24) (hh : h < 24) : hb (xal d) h = if (h : Int) < d 0 0 then 1 else 0 := by
  unfold xal
  rw [hb_xhs hh]
  by_cases c : (h : Int) < d 0 0
  · rw [if_pos c, if_pos ⟨by omega, c⟩]
  · rw [if_neg c, if_neg (fun q => c q.2)]
theorem xbh_al (h0 : 0 ≤ d 0 0 ∧ d 0 0 ≤ 24) (hz : ∀ h : Nat, d 0 0 ≤ (h : Int) → h < 24 → e 13 h = 0) : ∀ h, h < 24 → xbh (xal d) (xvy e d g) h = xvy e d g h := fun h hh => by
  unfold xbh
  rw [hb_al h0 hh]
  by_cases c : (h : Int) < d 0 0
  · rw [if_pos c, if_neg (by decide)]
  · rw [if_neg c, if_pos rfl, xvy_0 (by have := hz h (by omega) hh; omega)]
theorem xwo_q (h1 : xqu d g (d 0 3).toNat ≠ 0) : xwo e d g = 0 := if_neg (fun c => h1 c.1)
theorem xwo_f (h1 : xqu d g (d 0 3).toNat = 0) (hf : XFB (xvy e d g) (d 0 2) 24 z) : (z = 24 ∧ xwo e d g = 1) ∨ (z ≠ 24 ∧ xwo e d g = 0) := by
  rcases hf with ⟨a1, a2⟩ | ⟨a1, a2, a3, -⟩
  · refine Or.inl ⟨a1, if_pos ⟨h1, List.all_eq_true.mpr (fun h hh => ?_)⟩⟩
    rw [a2 h (by have := List.mem_range.mp hh; omega)]
    rfl
  · refine Or.inr ⟨by omega, if_neg (fun c => ?_)⟩
    have := List.all_eq_true.mp c.2 z.toNat (List.mem_range.mpr (by omega))
    rw [a3] at this
    cases this
end JUDGE
