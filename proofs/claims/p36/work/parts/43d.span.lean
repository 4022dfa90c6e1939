/-! SPANS (own work): what is told, cut to its HOURS; a person's SPANS as a list; the relations of both programs to it -/
/-- bits, one after the other -/
def xob (P : Nat → Bool) : Nat → Int
  | 0 => 0
  | n + 1 => if P n = true then wq_or (xob P n) (wq_shl 1 n) else xob P n
theorem wq_or_0 {x : Int} (h : -2147483648 ≤ x ∧ x ≤ 2147483647) : wq_or x 0 = x := by
  unfold wq_or
  rw [show Int32.ofInt 0 = 0 from rfl, Int32.or_zero]
  exact Int32.toInt_ofInt_of_le h.1 (by omega)
theorem xob_s {P : Nat → Bool} {i : Int} (h : 0 ≤ i) (hp : P i.toNat = true) : xob P (i + 1).toNat = wq_or (xob P i.toNat) (wq_shl 1 i) := by
  rw [show (i + 1).toNat = i.toNat + 1 by omega]
  show (if P i.toNat = true then wq_or (xob P i.toNat) (wq_shl 1 (i.toNat : Nat)) else xob P i.toNat) = _
  rw [if_pos hp, Int.toNat_of_nonneg h]
theorem xob_n {P : Nat → Bool} {i : Int} (h : 0 ≤ i) (hp : P i.toNat = false) : xob P (i + 1).toNat = xob P i.toNat := by
  rw [show (i + 1).toNat = i.toNat + 1 by omega]
  show (if P i.toNat = true then wq_or (xob P i.toNat) (wq_shl 1 (i.toNat : Nat)) else xob P i.toNat) = _
  rw [if_neg (by rw [hp]; decide)]
theorem xob_b {P : Nat → Bool} : ∀ n : Nat, n ≤ 24 → 0 ≤ xob P n ∧ xob P n ≤ 16777215
  | 0, _ => ⟨Int.le_refl _, by show (0 : Int) ≤ 16777215; decide⟩
  | n + 1, h => by
    have h1 := xob_b n (by omega) (P := P)
    show 0 ≤ (if P n = true then wq_or (xob P n) (wq_shl 1 n) else xob P n) ∧ (if P n = true then wq_or (xob P n) (wq_shl 1 n) else xob P n) ≤ 16777215
    split
    · exact wq_or_24 h1 ⟨by have := (wq_shl1_24 (y := n) ⟨by omega, by omega⟩).1; omega, by have := (wq_shl1_24 (y := n) ⟨by omega, by omega⟩).2; omega⟩
    · exact h1
theorem xob_cg {P Q : Nat → Bool} : ∀ n : Nat, (∀ j, j < n → P j = Q j) → xob P n = xob Q n
  | 0, _ => rfl
  | n + 1, h => by
    show (if P n = true then wq_or (xob P n) (wq_shl 1 n) else xob P n) = (if Q n = true then wq_or (xob Q n) (wq_shl 1 n) else xob Q n)
    rw [h n (by omega), xob_cg n (fun j hj => h j (by omega))]
theorem xob_gap {P : Nat → Bool} {u h : Nat} (hu : u ≤ h) (hp : ∀ j, u ≤ j → j < h → P j = false) : xob P h = xob P u := by
  induction h with
  | zero =>
    have : u = 0 := by omega
    subst this
    rfl
  | succ n ih =>
    by_cases e : u = n + 1
    · rw [e]
    · show (if P n = true then wq_or (xob P n) (wq_shl 1 n) else xob P n) = _
      rw [hp n (by omega) (by omega), if_neg (by decide)]
      exact ih (by omega) (fun j h1 h2 => hp j h1 (by omega))
theorem SV_at {T : wq_T} {H : wq_H} {r b h : Nat} {f : Nat → Int} {i : Int} (q : SV T H r f i) (e0 : H r 2 = (b : Int)) (hk : (h : Int) < i) (hp : f h > 0) : H b (xcn f h).toNat = h := by
  obtain ⟨b', h1, -, h3⟩ := q
  have : b' = b := by omega
  subst this
  exact h3 h hk hp
/-- the next HOUR struck -/
theorem xcn_nx {f : Nat → Int} {u : Nat} : ∀ n : Nat, u ≤ n → xcn f u < xcn f n → ∃ h, u ≤ h ∧ h < n ∧ f h > 0 ∧ xcn f h = xcn f u ∧ (∀ j, u ≤ j → j < h → f j ≤ 0)
  | 0, h0, h1 => by
    have : u = 0 := by omega
    subst this
    omega
  | n + 1, h0, h1 => by
    by_cases e : u = n + 1
    · rw [e] at h1
      omega
    · by_cases h2 : xcn f u < xcn f n
      · obtain ⟨h, a, b, c, q, r⟩ := xcn_nx n (by omega) h2
        exact ⟨h, a, by omega, c, q, r⟩
      · have h3 := xcn_mono (f := f) (m := u) n (by omega)
        have h4 : xcn f (n + 1) = xcn f n + (if f n > 0 then 1 else 0) := rfl
        have h5 : f n > 0 := by
          by_cases q : f n > 0
          · exact q
          · rw [if_neg q] at h4
            omega
        refine ⟨n, by omega, by omega, h5, by omega, fun j a b => ?_⟩
        by_cases q : f j ≤ 0
        · exact q
        · have := xcn_mono (f := f) (m := u) j a
          have := xcn_lt (f := f) b (by omega)
          omega
/-- what is told, cut to its HOURS -/
def xcu (f : Nat → Int) (n v : Int) : Nat → Int := fun h => if n ≤ h ∧ (h : Int) < v then 0 else f h
def xmk (f : Nat → Int) (a v : Int) : Nat → Int := fun k => if (k : Int) < v then wq_and (f k) a else f k
def xal (d : xD) : Int := xhs 0 (d 0 0)
def xset (d : xD) : xD := fun i => if i = 13 then xcu (d 13) (d 0 0) 24 else if i = 15 then xmk (d 15) (xal d) (d 0 6) else if i = 16 then xmk (d 16) (xal d) (d 0 7) else d i
theorem xset_o {d : xD} {i : Nat} (h : i ≠ 13 ∧ i ≠ 15 ∧ i ≠ 16) : xset d i = d i := by
  unfold xset
  rw [if_neg h.1, if_neg h.2.1, if_neg h.2.2]
theorem xset_15 {d : xD} : xset d 15 = xmk (d 15) (xal d) (d 0 6) := rfl
theorem xset_16 {d : xD} : xset d 16 = xmk (d 16) (xal d) (d 0 7) := rfl
theorem xset_v {d : xD} : xset d 0 0 = d 0 0 ∧ xset d 0 1 = d 0 1 ∧ xset d 0 2 = d 0 2 ∧ xset d 0 3 = d 0 3 ∧ xset d 0 4 = d 0 4 ∧ xset d 0 5 = d 0 5 ∧ xset d 0 6 = d 0 6 ∧ xset d 0 7 = d 0 7 ∧ xset d 0 8 = d 0 8 := ⟨rfl, rfl, rfl, rfl, rfl, rfl, rfl, rfl, rfl⟩
theorem xset_al {d : xD} : xal (xset d) = xal d := rfl
/-- a person's SPANS -/
def xsl (d : xD) (k : Nat) (b l : Int) : Int := wq_and (wq_or (xhs b (b + l)) (xhs (d 7 k) (d 8 k))) (xal d)
def xmu (d : xD) (k : Nat) : Int := if (k : Int) = d 0 8 then xob (fun h => decide (d 13 h > 0)) 24 else 0
def xsr (d : xD) (k : Nat) (b : Int) : Int → Nat → List (Int × Int)
  | _, 0 => []
  | l, n + 1 => (if wq_and (xsl d k b l) (xmu d k) = 0 then [(b, l)] else []) ++ xsr d k b (l + 1) n
def xsa (d : xD) (k : Nat) : Int → Nat → List (Int × Int)
  | _, 0 => []
  | b, n + 1 => xsr d k b (d 4 k) (d 5 k + 1 - d 4 k).toNat ++ xsa d k (b + 1) n
def xsp (d : xD) (k : Nat) : List (Int × Int) := if d 9 k = 1 then [(0, 0)] else xsa d k (d 2 k) (d 3 k + 1 - d 2 k).toNat
def xas (d : xD) (k : Nat) (x : Int × Int) : Int := if d 9 k = 1 then 0 else xsl d k x.1 x.2
def xwk (d : xD) (k : Nat) (x : Int × Int) : Int := if d 9 k = 1 then 0 else wq_and (xal d) (wq_xor (xsl d k x.1 x.2) (-1))
def xtal (b : Int) : Nat → Int
  | 0 => 0
  | n + 1 => wl_or (xtal b n) (wl_shl (wl_and (wq_shr b n) 1) ((n : Int) * 4))
section XSP2

variable {d : xD} {k : Nat} {P : List (Int × Int)} {b l z q a v w : Int}
theorem xsr_len : ∀ (n : Nat) (l : Int), (xsr d k b l n).length ≤ n
  | 0, _ => Nat.le_refl _
  | n + 1, l => by
    show ((if wq_and (xsl d k b l) (xmu d k) = 0 then [(b, l)] else []) ++ xsr d k b (l + 1) n).length ≤ n + 1
    rw [List.length_append]
    have h1 := xsr_len n (l + 1)
    split
    · simp only [List.length_cons, List.length_nil]
      omega
    · simp only [List.length_nil]
      omega
theorem xsa_len (h5 : (d 5 k + 1 - d 4 k).toNat ≤ 5) : ∀ (n : Nat) (b : Int), (xsa d k b n).length ≤ 5 * n
  | 0, _ => Nat.le_refl _
  | n + 1, b => by
    show (xsr d k b (d 4 k) (d 5 k + 1 - d 4 k).toNat ++ xsa d k (b + 1) n).length ≤ 5 * (n + 1)
    rw [List.length_append]
    have h1 := xsa_len h5 n (b + 1)
    have h2 := @xsr_len d k b (d 5 k + 1 - d 4 k).toNat (d 4 k)
    omega
theorem xsp_len (h : xdP d) : (xsp d k).length ≤ 40 := by
  unfold xsp
  split
  · decide
  · have h1 := h k
    have h2 := @xsa_len d k (by omega) (d 3 k + 1 - d 2 k).toNat (d 2 k)
    omega
/-- the list's rows -/
def xr1 (P : List (Int × Int)) : Nat → Int := fun i => (P.getD i (0, 0)).1
def xr2 (P : List (Int × Int)) : Nat → Int := fun i => (P.getD i (0, 0)).2
def xr3 (d : xD) (k : Nat) (P : List (Int × Int)) : Nat → Int := fun i => xas d k (P.getD i (0, 0))
def xr4 (d : xD) (k : Nat) (P : List (Int × Int)) : Nat → Int := fun i => xwk d k (P.getD i (0, 0))
def xr5 (d : xD) (k : Nat) (P : List (Int × Int)) : Nat → Int := fun i => xtal (xwk d k (P.getD i (0, 0))) 12
def xr6 (d : xD) (k : Nat) (P : List (Int × Int)) : Nat → Int := fun i => xtal (wq_shr (xwk d k (P.getD i (0, 0))) 12) 12
end XSP2
/-! an array of another owner, as far as it is filled -/
section DAO

variable {T : wq_T} {H H' : wq_H} {l : List (Nat × Nat)} {r b k o S tg : Nat} {c c' v : Int} {f f' : Nat → Int}
def DAw (o S tg : Nat) (l : List (Nat × Nat)) : Bool := wno l o (fun j => decide (j = S)) && wno l tg (fun _ => true)
theorem DAo_fr (g : T.2.2.2 r = some o) (f0 : wfr l T H H') (x : DAw o S tg l = true) (h : DA S tg T H r c f) : DA S tg T H' r c f := by
  unfold DAw at x
  simp only [Bool.and_eq_true] at x
  obtain ⟨b, h1, h2, h3⟩ := h
  exact ⟨b, (wno_f f0 g x.1 (by simp)).trans h1, h2, fun k hk => (wno_f f0 h2 x.2 rfl).trans (h3 k hk)⟩
theorem DAo_put (h : DA S tg T H r c f) (e0 : H r S = (b : Int)) (gr : T.2.2.2 r = some o) (gb : T.2.2.2 b = some tg) (ne : tg ≠ o) (e : H' = wq_u H b k v) (hk : (k : Int) = c) (hc : c' = c + 1) (fk : f' k = v) (fn : ∀ j, j ≠ k → f' j = f j) : DA S tg T H' r c' f' := by
  obtain ⟨b', h1, h2, h3⟩ := h
  have hb : b' = b := by omega
  subst hb
  refine ⟨b', ?_, h2, fun j hj => ?_⟩
  · rw [e, wq_u_na (fun q => ?_)]
    · exact h1
    · subst q
      rw [gr] at gb
      exact ne (Option.some.inj gb).symm
  · by_cases hjk : j = k
    · subst hjk
      rw [e, wq_u_eq, fk]
    · rw [e, wq_u_ne (fun q => hjk q.2), fn j hjk]
      exact h3 j (by omega)
theorem DA_at (h : DA S tg T H r c f) (e0 : H r S = (b : Int)) (hk : (k : Int) < c) : H b k = f k := by
  obtain ⟨b', h1, -, h3⟩ := h
  have : b' = b := by omega
  subst this
  exact h3 k hk
theorem DA_cg (h : DA S tg T H r c f) (e : c' = c) (e2 : f' = f) : DA S tg T H r c' f' := by rw [e, e2]; exact h
end DAO
abbrev PA0 := DA 0 36
abbrev PA1 := DA 1 37
abbrev PA2 := DA 2 38
abbrev PA3 := DA 3 39
abbrev PA4 := DA 4 40
abbrev PA5 := DA 5 41
def PS (T : wq_T) (H : wq_H) (p : Nat) (d : xD) (k : Nat) (P : List (Int × Int)) : Prop := H p 15 = (P.length : Int) ∧ PA0 T H p P.length (xr1 P) ∧ PA1 T H p P.length (xr2 P) ∧ PA2 T H p P.length (xr3 d k P) ∧ PA3 T H p P.length (xr4 d k P) ∧ PA4 T H p P.length (xr5 d k P) ∧ PA5 T H p P.length (xr6 d k P)
def PSx (l : List (Nat × Nat)) : Bool := wno l 35 (fun j => decide (j ≤ 5 ∨ j = 15)) && wno l 36 (fun _ => true) && wno l 37 (fun _ => true) && wno l 38 (fun _ => true) && wno l 39 (fun _ => true) && wno l 40 (fun _ => true) && wno l 41 (fun _ => true)
section PREL

variable {T : wq_T} {H H' : wq_H} {l : List (Nat × Nat)} {p k : Nat} {d : xD} {P : List (Int × Int)} {c : Int} {f : Nat → Int}
theorem wno_le {t : Nat} {s s' : Nat → Bool} (h : wno l t s = true) (hs : ∀ j, s' j = true → s j = true) : wno l t s' = true := List.all_eq_true.mpr (fun q hq => by
  have h1 := List.all_eq_true.mp h q hq
  simp only [Bool.not_eq_true', Bool.and_eq_false_iff, Bool.or_eq_false_iff, beq_eq_false_iff_ne] at h1 ⊢
  rcases h1 with h1 | h1
  · exact Or.inl h1
  · refine Or.inr ⟨h1.1, ?_⟩
    cases e : s' q.2 with
    | false => rfl
    | true => rw [hs _ e] at h1; cases h1.2)
theorem PS_fr (hW : WT T H) (g : T.2.2.2 p = some 35) (f0 : wfr l T H H') (x : PSx l = true) (h : PS T H p d k P) : PS T H' p d k P := by
  unfold PSx at x
  simp only [Bool.and_eq_true] at x
  have y : ∀ S, S ≤ 5 → ∀ tg, wno l tg (fun _ => true) = true → DAw 35 S tg l = true := fun S hS tg ht => by
    unfold DAw
    rw [Bool.and_eq_true]
    exact ⟨wno_le x.1.1.1.1.1.1 (fun j hj => decide_eq_true (Or.inl (by have := of_decide_eq_true hj; omega))), ht⟩
  obtain ⟨h0, h1, h2, h3, h4, h5, h6⟩ := h
  exact ⟨(wno_f f0 g x.1.1.1.1.1.1 (j := 15) rfl).trans h0, DAo_fr g f0 (y 0 (by decide) 36 x.1.1.1.1.1.2) h1, DAo_fr g f0 (y 1 (by decide) 37 x.1.1.1.1.2) h2, DAo_fr g f0 (y 2 (by decide) 38 x.1.1.1.2) h3, DAo_fr g f0 (y 3 (by decide) 39 x.1.1.2) h4, DAo_fr g f0 (y 4 (by decide) 40 x.1.2) h5, DAo_fr g f0 (y 5 (by decide) 41 x.2) h6⟩
end PREL
/-! what is told of people lies between its bounds where a text goes well -/
section XDP

variable {B : Nat → Int} {n q : Int} {d : xD}
end XDP
