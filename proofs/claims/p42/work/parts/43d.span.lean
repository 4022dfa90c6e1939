/-! SPANS (own work): what is told, cut to its HOURS; a person's SPANS as a list; the relations of both programs to it -/
/-- bits, one after the other -/
def xob (P : Nat → Bool) : Nat → Int
  | 0 => 0
  | n + 1 => if P n = true then wq_or (xob P n) (wq_shl 1 n) else xob P n
theorem wq_or_0 {x : Int} (h : -2147483648 ≤ x ∧ x ≤ 2147483647) : wq_or x 0 = x := by
  unfold wq_or
  rw [show Int32.ofInt 0 = 0 from rfl, Int32.or_zero]
  exact Int32.toInt_ofInt_of_le h.1 (by omega)
theorem xob_s {P : Nat → Bool} {i : Int} (h : 0 ≤ i) (hp : P i.toNat = true) : xob P (i + 1).toNat = wq_or (xob P i.toNat) (wq_shl 1 i) := by
  rw [show (i + 1).toNat = i.toNat + 1 by omega]
  show (if P i.toNat = true then wq_or (xob P i.toNat) (wq_shl 1 (i.toNat : Nat)) else xob P i.toNat) = _
  rw [if_pos hp, Int.toNat_of_nonneg h]
theorem xob_n {P : Nat → Bool} {i : Int} (h : 0 ≤ i) (hp : P i.toNat = false) : xob P (i + 1).toNat = xob P i.toNat := by
  rw [show (i + 1).toNat = i.toNat + 1 by omega]
  show (if P i.toNat = true then wq_or (xob P i.toNat) (wq_shl 1 (i.toNat : Nat)) else xob P i.toNat) = _
  rw [if_neg (by rw [hp]; decide)]
theorem xob_cg {P Q : Nat → Bool} : ∀ n : Nat, (∀ j, j < n → P j = Q j) → xob P n = xob Q n
  | 0, _ => rfl
  | n + 1, h => by
    show (if P n = true then wq_or (xob P n) (wq_shl 1 n) else xob P n) = (if Q n = true then wq_or (xob Q n) (wq_shl 1 n) else xob Q n)
    rw [h n (by omega), xob_cg n (fun j hj => h j (by omega))]
theorem xob_gap {P : Nat → Bool} {u h : Nat} (hu : u ≤ h) (hp : ∀ j, u ≤ j → j < h → P j = false) : xob P h = xob P u := by
  induction h with
  | zero =>
    have : u = 0 := by omega
    subst this
    rfl
  | succ n ih =>
    by_cases e : u = n + 1
    · rw [e]
    · show (if P n = true then wq_or (xob P n) (wq_shl 1 n) else xob P n) = _
      rw [hp n (by omega) (by omega), if_neg (by decide)]
      exact ih (by omega) (fun j h1 h2 => hp j h1 (by omega))
theorem xob_pn {P : Nat → Bool} {u n : Nat} {x : Int} (hx : x = xob P u) (g : xob P n = xob P u) (h : P n = false) : x = xob P (n + 1) := by
  show x = (if P n = true then wq_or (xob P n) (wq_shl 1 n) else xob P n)
  rw [h, if_neg (by decide), g]
  exact hx
theorem xob_py {P : Nat → Bool} {u n : Nat} {x y s w : Int} (hx : x = xob P u) (g : xob P n = xob P u) (h : P n = true) (e1 : y = wq_or x s) (e2 : s = wq_shl 1 w) (ew : w = n) : y = xob P (n + 1) := by
  show y = (if P n = true then wq_or (xob P n) (wq_shl 1 n) else xob P n)
  rw [h, if_pos rfl, g, ← hx, e1, e2, ew]
theorem SV_at {T : wq_T} {H : wq_H} {r b h : Nat} {f : Nat → Int} {i : Int} (q : SV T H r f i) (e0 : H r 2 = (b : Int)) (hk : (h : Int) < i) (hp : f h > 0) : H b (xcn f h).toNat = h := by
  obtain ⟨b', h1, -, h3⟩ := q
  have : b' = b := by omega
  subst this
  exact h3 h hk hp
theorem ST_at2 {T : wq_T} {H : wq_H} {r s k h : Nat} {f : Nat → Int} (q : ST T H r f) (e0 : H r 1 = (s : Int)) (hk : k < 24) (e : k = h) : 0 ≤ f h ∧ f h ≤ 100 ∧ ((f h > 0 ∧ H s k = f h - 1) ∨ (f h = 0 ∧ H s k = -2)) := by
  subst e
  exact ST_at q e0 hk
/-- the next HOUR struck -/
theorem xcn_nx {f : Nat → Int} {u : Nat} : ∀ n : Nat, u ≤ n → xcn f u < xcn f n → ∃ h, u ≤ h ∧ h < n ∧ f h > 0 ∧ xcn f h = xcn f u ∧ (∀ j, u ≤ j → j < h → f j ≤ 0)
  | 0, h0, h1 => by
    have : u = 0 := by omega
    subst this
    omega
  | n + 1, h0, h1 => by
    by_cases e : u = n + 1
    · rw [e] at h1
      omega
    · by_cases h2 : xcn f u < xcn f n
      · obtain ⟨h, a, b, c, q, r⟩ := xcn_nx n (by omega) h2
        exact ⟨h, a, by omega, c, q, r⟩
      · have h3 := xcn_mono (f := f) (m := u) n (by omega)
        have h4 : xcn f (n + 1) = xcn f n + (if f n > 0 then 1 else 0) := rfl
        have h5 : f n > 0 := by
          by_cases q : f n > 0
          · exact q
          · rw [if_neg q] at h4
            omega
        refine ⟨n, by omega, by omega, h5, by omega, fun j a b => ?_⟩
        by_cases q : f j ≤ 0
        · exact q
        · have := xcn_mono (f := f) (m := u) j a
          have := xcn_lt (f := f) b (by omega)
          omega
/-- what is told, cut to its HOURS -/
def xcu (f : Nat → Int) (n v : Int) : Nat → Int := fun h => if n ≤ h ∧ (h : Int) < v then 0 else f h
def xmk (f : Nat → Int) (a v : Int) : Nat → Int := fun k => if (k : Int) < v then wq_and (f k) a else f k
def xal (d : xD) : Int := xhs 0 (d 0 0)
def xset (d : xD) : xD := fun i => if i = 13 then xcu (d 13) (d 0 0) 24 else if i = 15 then xmk (d 15) (xal d) (d 0 6) else if i = 16 then xmk (d 16) (xal d) (d 0 7) else d i
theorem xset_o {d : xD} {i : Nat} (h : i ≠ 13 ∧ i ≠ 15 ∧ i ≠ 16) : xset d i = d i := by
  unfold xset
  rw [if_neg h.1, if_neg h.2.1, if_neg h.2.2]
theorem xset_13 {d : xD} : xset d 13 = xcu (d 13) (d 0 0) 24 := rfl
theorem xset_v {d : xD} : xset d 0 0 = d 0 0 ∧ xset d 0 1 = d 0 1 ∧ xset d 0 2 = d 0 2 ∧ xset d 0 3 = d 0 3 ∧ xset d 0 4 = d 0 4 ∧ xset d 0 5 = d 0 5 ∧ xset d 0 6 = d 0 6 ∧ xset d 0 7 = d 0 7 ∧ xset d 0 8 = d 0 8 := ⟨rfl, rfl, rfl, rfl, rfl, rfl, rfl, rfl, rfl⟩
theorem xcu_0 {f : Nat → Int} {n : Int} : xcu f n n = f := by
  funext h
  exact if_neg (by omega)
theorem xcu_c {f : Nat → Int} {n v : Int} (h0 : 0 ≤ v) (h : n ≤ v) : xcu f n (v + 1) v.toNat = 0 ∧ ∀ j : Nat, j ≠ v.toNat → xcu f n (v + 1) j = xcu f n v j := by
  refine ⟨if_pos (by omega), fun j hj => ?_⟩
  unfold xcu
  by_cases q : n ≤ (j : Int) ∧ (j : Int) < v
  · rw [if_pos q, if_pos (by omega)]
  · rw [if_neg q, if_neg (by omega)]
theorem xmk_0 {f : Nat → Int} {a : Int} : xmk f a 0 = f := by
  funext k
  exact if_neg (by omega)
theorem xmk_c {f : Nat → Int} {a v : Int} (h0 : 0 ≤ v) : xmk f a (v + 1) v.toNat = wq_and (f v.toNat) a ∧ (∀ j : Nat, j ≠ v.toNat → xmk f a (v + 1) j = xmk f a v j) ∧ xmk f a v v.toNat = f v.toNat := by
  refine ⟨if_pos (by omega), fun j hj => ?_, if_neg (by omega)⟩
  unfold xmk
  by_cases q : (j : Int) < v
  · rw [if_pos q, if_pos (by omega)]
  · rw [if_neg q, if_neg (by omega)]
/-- a person's SPANS -/
def xsl (d : xD) (k : Nat) (b l : Int) : Int := wq_and (wq_or (xhs b (b + l)) (xhs (d 7 k) (d 8 k))) (xal d)
def xmu (d : xD) (k : Nat) : Int := if (k : Int) = d 0 8 then xob (fun h => decide (d 13 h > 0)) 24 else 0
def xsr (d : xD) (k : Nat) (b : Int) : Int → Nat → List (Int × Int)
  | _, 0 => []
  | l, n + 1 => (if wq_and (xsl d k b l) (xmu d k) = 0 then [(b, l)] else []) ++ xsr d k b (l + 1) n
def xsa (d : xD) (k : Nat) : Int → Nat → List (Int × Int)
  | _, 0 => []
  | b, n + 1 => xsr d k b (d 4 k) (d 5 k + 1 - d 4 k).toNat ++ xsa d k (b + 1) n
def xsp (d : xD) (k : Nat) : List (Int × Int) := if d 9 k = 1 then [(0, 0)] else xsa d k (d 2 k) (d 3 k + 1 - d 2 k).toNat
def xas (d : xD) (k : Nat) (x : Int × Int) : Int := if d 9 k = 1 then 0 else xsl d k x.1 x.2
def xwk (d : xD) (k : Nat) (x : Int × Int) : Int := if d 9 k = 1 then 0 else wq_and (xal d) (wq_xor (xsl d k x.1 x.2) (-1))
def xtal (b : Int) : Nat → Int
  | 0 => 0
  | n + 1 => wl_or (xtal b n) (wl_shl (wl_and (wq_shr b n) 1) ((n : Int) * 4))
theorem xtal_s {b v : Int} (h : 0 ≤ v) : xtal b (v + 1).toNat = wl_or (xtal b v.toNat) (wl_shl (wl_and (wq_shr b v) 1) (v * 4)) := by
  rw [show (v + 1).toNat = v.toNat + 1 by omega]
  show wl_or (xtal b v.toNat) (wl_shl (wl_and (wq_shr b (v.toNat : Nat)) 1) (((v.toNat : Nat) : Int) * 4)) = _
  rw [Int.toNat_of_nonneg h]
section XSP2

variable {d : xD} {k : Nat} {P : List (Int × Int)} {b l z q a v w : Int}
theorem xsl_e (h1 : w = wq_or z q) (h2 : v = wq_and w a) (hz : z = xhs b (b + l)) (hq : q = xhs (d 7 k) (d 8 k)) (ha : a = xal d) : v = xsl d k b l := by
  unfold xsl
  rw [h2, h1, hz, hq, ha]
theorem xsr_len : ∀ (n : Nat) (l : Int), (xsr d k b l n).length ≤ n
  | 0, _ => Nat.le_refl _
  | n + 1, l => by
    show ((if wq_and (xsl d k b l) (xmu d k) = 0 then [(b, l)] else []) ++ xsr d k b (l + 1) n).length ≤ n + 1
    rw [List.length_append]
    have h1 := xsr_len n (l + 1)
    split
    · simp only [List.length_cons, List.length_nil]
      omega
    · simp only [List.length_nil]
      omega
theorem xsa_len (h5 : (d 5 k + 1 - d 4 k).toNat ≤ 5) : ∀ (n : Nat) (b : Int), (xsa d k b n).length ≤ 5 * n
  | 0, _ => Nat.le_refl _
  | n + 1, b => by
    show (xsr d k b (d 4 k) (d 5 k + 1 - d 4 k).toNat ++ xsa d k (b + 1) n).length ≤ 5 * (n + 1)
    rw [List.length_append]
    have h1 := xsa_len h5 n (b + 1)
    have h2 := @xsr_len d k b (d 5 k + 1 - d 4 k).toNat (d 4 k)
    omega
theorem xsp_len (h : xdP d) : (xsp d k).length ≤ 40 := by
  unfold xsp
  split
  · decide
  · have h1 := h k
    have h2 := @xsa_len d k (by omega) (d 3 k + 1 - d 2 k).toNat (d 2 k)
    omega
/-- at a head -/
theorem xsa_u (h : b ≤ d 3 k) : xsa d k b (d 3 k + 1 - b).toNat = xsr d k b (d 4 k) (d 5 k + 1 - d 4 k).toNat ++ xsa d k (b + 1) (d 3 k - b).toNat := by
  rw [show (d 3 k + 1 - b).toNat = (d 3 k - b).toNat + 1 by omega]
  rfl
theorem xsa_e (h : d 3 k < b) : xsa d k b (d 3 k + 1 - b).toNat = [] := by
  rw [show (d 3 k + 1 - b).toNat = 0 by omega]
  rfl
theorem xsr_u (h : l ≤ d 5 k) : xsr d k b l (d 5 k + 1 - l).toNat = (if wq_and (xsl d k b l) (xmu d k) = 0 then [(b, l)] else []) ++ xsr d k b (l + 1) (d 5 k + 1 - (l + 1)).toNat := by
  rw [show (d 5 k + 1 - l).toNat = (d 5 k + 1 - (l + 1)).toNat + 1 by omega]
  rfl
theorem xsr_e (h : d 5 k < l) : xsr d k b l (d 5 k + 1 - l).toNat = [] := by
  rw [show (d 5 k + 1 - l).toNat = 0 by omega]
  rfl
/-- the loops' facts -/
def xfo (d : xD) (k : Nat) (P : List (Int × Int)) (b : Int) : Prop := P ++ xsa d k b (d 3 k + 1 - b).toNat = xsp d k
def xfn (d : xD) (k : Nat) (P : List (Int × Int)) (b l : Int) : Prop := P ++ (xsr d k b l (d 5 k + 1 - l).toNat ++ xsa d k (b + 1) (d 3 k - b).toNat) = xsp d k
theorem xfo_0 (h : d 9 k ≠ 1) (hb : b = d 2 k) : xfo d k [] b := by
  unfold xfo xsp
  rw [if_neg h, hb]
  rfl
theorem xfo_i (h : xfo d k P b) (hb : b ≤ d 3 k) (hl : l = d 4 k) : xfn d k P b l := by
  unfold xfn
  unfold xfo at h
  rw [hl, ← xsa_u hb]
  exact h
theorem xfn_o (h : xfn d k P b l) (hl : d 5 k < l) : xfo d k P (b + 1) := by
  unfold xfn at h
  unfold xfo
  rw [xsr_e hl] at h
  rw [show d 3 k + 1 - (b + 1) = d 3 k - b by omega]
  exact h
theorem xfn_y (h : xfn d k P b l) (hl : l ≤ d 5 k) (hw : wq_and (xsl d k b l) (xmu d k) = 0) : xfn d k (P ++ [(b, l)]) b (l + 1) := by
  unfold xfn at h ⊢
  rw [xsr_u hl, if_pos hw] at h
  rw [← h]
  simp only [List.append_assoc]
theorem xfn_n (h : xfn d k P b l) (hl : l ≤ d 5 k) (hw : wq_and (xsl d k b l) (xmu d k) ≠ 0) : xfn d k P b (l + 1) := by
  unfold xfn at h ⊢
  rw [xsr_u hl, if_neg hw] at h
  exact h
theorem xfn_room (hP : xdP d) (h : xfn d k P b l) (hl : l ≤ d 5 k) (hw : wq_and (xsl d k b l) (xmu d k) = 0) : (P.length : Int) ≤ 39 := by
  have h1 := xfn_y h hl hw
  have h2 := @xsp_len d k hP
  unfold xfn at h1
  rw [← h1] at h2
  simp only [List.length_append, List.length_cons, List.length_nil] at h2
  omega
theorem xfo_e (h : xfo d k P b) (hb : d 3 k < b) : P = xsp d k := by
  unfold xfo at h
  rw [xsa_e hb, List.append_nil] at h
  exact h
theorem xsp_away (h : d 9 k = 1) : [] ++ [((0 : Int), (0 : Int))] = xsp d k := by
  unfold xsp
  rw [if_pos h]
  rfl
theorem xas_away (h : d 9 k = 1) : xas d k (0, 0) = 0 ∧ xwk d k (0, 0) = 0 := ⟨if_pos h, if_pos h⟩
theorem xas_not (h : d 9 k ≠ 1) {x : Int × Int} : xas d k x = xsl d k x.1 x.2 ∧ xwk d k x = wq_and (xal d) (wq_xor (xsl d k x.1 x.2) (-1)) := ⟨if_neg h, if_neg h⟩
/-- the list's rows -/
def xr1 (P : List (Int × Int)) : Nat → Int := fun i => (P.getD i (0, 0)).1
def xr2 (P : List (Int × Int)) : Nat → Int := fun i => (P.getD i (0, 0)).2
def xr3 (d : xD) (k : Nat) (P : List (Int × Int)) : Nat → Int := fun i => xas d k (P.getD i (0, 0))
def xr4 (d : xD) (k : Nat) (P : List (Int × Int)) : Nat → Int := fun i => xwk d k (P.getD i (0, 0))
def xr5 (d : xD) (k : Nat) (P : List (Int × Int)) : Nat → Int := fun i => xtal (xwk d k (P.getD i (0, 0))) 12
def xr6 (d : xD) (k : Nat) (P : List (Int × Int)) : Nat → Int := fun i => xtal (wq_shr (xwk d k (P.getD i (0, 0))) 12) 12
theorem getD_ap {x : Int × Int} : (P ++ [x]).getD P.length (0, 0) = x ∧ ∀ j, j ≠ P.length → (P ++ [x]).getD j (0, 0) = P.getD j (0, 0) := by
  refine ⟨by rw [List.getD_eq_getElem?_getD, List.getElem?_append_right (Nat.le_refl _), Nat.sub_self]; rfl, fun j hj => ?_⟩
  rw [List.getD_eq_getElem?_getD, List.getD_eq_getElem?_getD]
  by_cases h : j < P.length
  · rw [List.getElem?_append_left h]
  · rw [List.getElem?_append_right (by omega), List.getElem?_eq_none (by simp only [List.length_cons, List.length_nil]; omega), List.getElem?_eq_none (by omega)]
end XSP2
/-! an array of another owner, as far as it is filled -/
section DAO

variable {T : wq_T} {H H' : wq_H} {l : List (Nat × Nat)} {r b k o S tg : Nat} {c c' v : Int} {f f' : Nat → Int}
def DAw (o S tg : Nat) (l : List (Nat × Nat)) : Bool := wno l o (fun j => decide (j = S)) && wno l tg (fun _ => true)
theorem DAo_fr (g : T.2.2.2 r = some o) (f0 : wfr l T H H') (x : DAw o S tg l = true) (h : DA S tg T H r c f) : DA S tg T H' r c f := by
  unfold DAw at x
  simp only [Bool.and_eq_true] at x
  obtain ⟨b, h1, h2, h3⟩ := h
  exact ⟨b, (wno_f f0 g x.1 (by simp)).trans h1, h2, fun k hk => (wno_f f0 h2 x.2 rfl).trans (h3 k hk)⟩
theorem DAo_put (h : DA S tg T H r c f) (e0 : H r S = (b : Int)) (gr : T.2.2.2 r = some o) (gb : T.2.2.2 b = some tg) (ne : tg ≠ o) (e : H' = wq_u H b k v) (hk : (k : Int) = c) (hc : c' = c + 1) (fk : f' k = v) (fn : ∀ j, j ≠ k → f' j = f j) : DA S tg T H' r c' f' := by
  obtain ⟨b', h1, h2, h3⟩ := h
  have hb : b' = b := by omega
  subst hb
  refine ⟨b', ?_, h2, fun j hj => ?_⟩
  · rw [e, wq_u_na (fun q => ?_)]
    · exact h1
    · subst q
      rw [gr] at gb
      exact ne (Option.some.inj gb).symm
  · by_cases hjk : j = k
    · subst hjk
      rw [e, wq_u_eq, fk]
    · rw [e, wq_u_ne (fun q => hjk q.2), fn j hjk]
      exact h3 j (by omega)
/-- one place of it anew -/
theorem DAo_set (h : DA S tg T H r c f) (e0 : H r S = (b : Int)) (gr : T.2.2.2 r = some o) (gb : T.2.2.2 b = some tg) (ne : tg ≠ o) (e : H' = wq_u H b k v) (fk : f' k = v) (fn : ∀ j, j ≠ k → f' j = f j) : DA S tg T H' r c f' := by
  obtain ⟨b', h1, h2, h3⟩ := h
  have hb : b' = b := by omega
  subst hb
  refine ⟨b', ?_, h2, fun j hj => ?_⟩
  · rw [e, wq_u_na (fun q => ?_)]
    · exact h1
    · subst q
      rw [gr] at gb
      exact ne (Option.some.inj gb).symm
  · by_cases hjk : j = k
    · subst hjk
      rw [e, wq_u_eq, fk]
    · rw [e, wq_u_ne (fun q => hjk q.2), fn j hjk]
      exact h3 j hj
theorem DA_at (h : DA S tg T H r c f) (e0 : H r S = (b : Int)) (hk : (k : Int) < c) : H b k = f k := by
  obtain ⟨b', h1, -, h3⟩ := h
  have : b' = b := by omega
  subst this
  exact h3 k hk
theorem DA_le (h : DA S tg T H r c f) (hc : c' ≤ c) : DA S tg T H r c' f := by
  obtain ⟨b, h1, h2, h3⟩ := h
  exact ⟨b, h1, h2, fun k hk => h3 k (by omega)⟩
theorem DA_cg (h : DA S tg T H r c f) (e : c' = c) (e2 : f' = f) : DA S tg T H r c' f' := by rw [e, e2]; exact h
end DAO
/-- a person of the class: what it was told, its SPANS -/
def PX (T : wq_T) (H : wq_H) (p : Nat) (d : xD) (k : Nat) : Prop := PF H p d k ∧ xdP d
abbrev PA0 := DA 0 36
abbrev PA1 := DA 1 37
abbrev PA2 := DA 2 38
abbrev PA3 := DA 3 39
abbrev PA4 := DA 4 40
abbrev PA5 := DA 5 41
def PS (T : wq_T) (H : wq_H) (p : Nat) (d : xD) (k : Nat) (P : List (Int × Int)) : Prop := H p 15 = (P.length : Int) ∧ PA0 T H p P.length (xr1 P) ∧ PA1 T H p P.length (xr2 P) ∧ PA2 T H p P.length (xr3 d k P) ∧ PA3 T H p P.length (xr4 d k P) ∧ PA4 T H p P.length (xr5 d k P) ∧ PA5 T H p P.length (xr6 d k P)
def PSx (l : List (Nat × Nat)) : Bool := wno l 35 (fun j => decide (j ≤ 5 ∨ j = 15)) && wno l 36 (fun _ => true) && wno l 37 (fun _ => true) && wno l 38 (fun _ => true) && wno l 39 (fun _ => true) && wno l 40 (fun _ => true) && wno l 41 (fun _ => true)
section PREL

variable {T : wq_T} {H H' : wq_H} {l : List (Nat × Nat)} {p k : Nat} {d : xD} {P : List (Int × Int)} {c : Int} {f : Nat → Int}
theorem PX_k (h : PX T H p d k) : H p 7 = d 2 k ∧ H p 8 = d 3 k ∧ H p 9 = d 4 k ∧ H p 10 = d 5 k ∧ H p 12 = xhs (d 7 k) (d 8 k) ∧ H p 13 = d 9 k ∧ 0 ≤ d 2 k ∧ d 2 k ≤ d 3 k ∧ d 3 k ≤ d 2 k + 7 ∧ d 3 k ≤ 23 ∧ 0 ≤ d 4 k ∧ d 4 k ≤ d 5 k ∧ d 5 k ≤ d 4 k + 4 ∧ d 5 k ≤ 12 ∧ 0 ≤ d 9 k ∧ d 9 k ≤ 1 := by
  obtain ⟨⟨-, h1, h2, h3, h4, -, h5, h6, -⟩, hP⟩ := h
  have := hP k
  exact ⟨h1, h2, h3, h4, h5, h6, by omega, by omega, by omega, by omega, by omega, by omega, by omega, by omega, by omega, by omega⟩
theorem PS_mk (h0 : H p 15 = ((P.length : Int) + 1)) {x : Int × Int} (h1 : PA0 T H p ((P.length : Int) + 1) (xr1 (P ++ [x]))) (h2 : PA1 T H p ((P.length : Int) + 1) (xr2 (P ++ [x]))) (h3 : PA2 T H p ((P.length : Int) + 1) (xr3 d k (P ++ [x]))) (h4 : PA3 T H p ((P.length : Int) + 1) (xr4 d k (P ++ [x]))) (h5 : PA4 T H p ((P.length : Int) + 1) (xr5 d k (P ++ [x]))) (h6 : PA5 T H p ((P.length : Int) + 1) (xr6 d k (P ++ [x]))) : PS T H p d k (P ++ [x]) := by
  have e : ((P ++ [x]).length : Int) = (P.length : Int) + 1 := by
    rw [List.length_append]
    rfl
  unfold PS
  rw [e]
  exact ⟨h0, h1, h2, h3, h4, h5, h6⟩
theorem PA0_fr (hW : WT T H) (g : T.2.2.2 p = some 35) (f0 : wfr l T H H') (x : DAw 35 0 36 l = true) (h : PA0 T H p c f) : PA0 T H' p c f := DAo_fr g f0 x h
theorem PA1_fr (hW : WT T H) (g : T.2.2.2 p = some 35) (f0 : wfr l T H H') (x : DAw 35 1 37 l = true) (h : PA1 T H p c f) : PA1 T H' p c f := DAo_fr g f0 x h
theorem PA2_fr (hW : WT T H) (g : T.2.2.2 p = some 35) (f0 : wfr l T H H') (x : DAw 35 2 38 l = true) (h : PA2 T H p c f) : PA2 T H' p c f := DAo_fr g f0 x h
theorem PA3_fr (hW : WT T H) (g : T.2.2.2 p = some 35) (f0 : wfr l T H H') (x : DAw 35 3 39 l = true) (h : PA3 T H p c f) : PA3 T H' p c f := DAo_fr g f0 x h
theorem PA4_fr (hW : WT T H) (g : T.2.2.2 p = some 35) (f0 : wfr l T H H') (x : DAw 35 4 40 l = true) (h : PA4 T H p c f) : PA4 T H' p c f := DAo_fr g f0 x h
theorem PA5_fr (hW : WT T H) (g : T.2.2.2 p = some 35) (f0 : wfr l T H H') (x : DAw 35 5 41 l = true) (h : PA5 T H p c f) : PA5 T H' p c f := DAo_fr g f0 x h
theorem wno_le {t : Nat} {s s' : Nat → Bool} (h : wno l t s = true) (hs : ∀ j, s' j = true → s j = true) : wno l t s' = true := List.all_eq_true.mpr (fun q hq => by
  have h1 := List.all_eq_true.mp h q hq
  simp only [Bool.not_eq_true', Bool.and_eq_false_iff, Bool.or_eq_false_iff, beq_eq_false_iff_ne] at h1 ⊢
  rcases h1 with h1 | h1
  · exact Or.inl h1
  · refine Or.inr ⟨h1.1, ?_⟩
    cases e : s' q.2 with
    | false => rfl
    | true => rw [hs _ e] at h1; cases h1.2)
theorem PS_fr (hW : WT T H) (g : T.2.2.2 p = some 35) (f0 : wfr l T H H') (x : PSx l = true) (h : PS T H p d k P) : PS T H' p d k P := by
  unfold PSx at x
  simp only [Bool.and_eq_true] at x
  have y : ∀ S, S ≤ 5 → ∀ tg, wno l tg (fun _ => true) = true → DAw 35 S tg l = true := fun S hS tg ht => by
    unfold DAw
    rw [Bool.and_eq_true]
    exact ⟨wno_le x.1.1.1.1.1.1 (fun j hj => decide_eq_true (Or.inl (by have := of_decide_eq_true hj; omega))), ht⟩
  obtain ⟨h0, h1, h2, h3, h4, h5, h6⟩ := h
  exact ⟨(wno_f f0 g x.1.1.1.1.1.1 (j := 15) rfl).trans h0, DAo_fr g f0 (y 0 (by decide) 36 x.1.1.1.1.1.2) h1, DAo_fr g f0 (y 1 (by decide) 37 x.1.1.1.1.2) h2, DAo_fr g f0 (y 2 (by decide) 38 x.1.1.1.2) h3, DAo_fr g f0 (y 3 (by decide) 39 x.1.1.2) h4, DAo_fr g f0 (y 4 (by decide) 40 x.1.2) h5, DAo_fr g f0 (y 5 (by decide) 41 x.2) h6⟩
theorem PS_0 (hW : WT T H) (g : T.2.2.2 p = some 35) (h0 : H p 15 = 0) : PS T H p d k [] := by
  have h : ∀ S tg, (∃ b : Nat, H p S = (b : Int) ∧ T.2.2.2 b = some tg) → ∀ f : Nat → Int, DA S tg T H p (([] : List (Int × Int)).length : Int) f := fun S tg ⟨b, h1, h2⟩ f => ⟨b, h1, h2, fun k hk => by
    have hk : (k : Int) < 0 := hk
    omega⟩
  exact ⟨h0, h 0 36 (hW.ref g (n := 18) (p := 0) (q := 0) rfl (by decide) rfl) _, h 1 37 (hW.ref g (n := 18) (p := 0) (q := 0) rfl (by decide) rfl) _, h 2 38 (hW.ref g (n := 18) (p := 0) (q := 0) rfl (by decide) rfl) _, h 3 39 (hW.ref g (n := 18) (p := 0) (q := 0) rfl (by decide) rfl) _, h 4 40 (hW.ref g (n := 18) (p := 0) (q := 0) rfl (by decide) rfl) _, h 5 41 (hW.ref g (n := 18) (p := 0) (q := 0) rfl (by decide) rfl) _⟩
theorem PS_eq {P' : List (Int × Int)} (h : PS T H p d k P) (e : P = P') : PS T H p d k P' := e ▸ h
end PREL
/-! what is told of people lies between its bounds where a text goes well -/
section XDP

variable {B : Nat → Int} {n q : Int} {d : xD}
theorem xs_iff {f p : Int} {k : xO} : (xs f p k).1 = 0 ↔ f = 0 ∧ k.1 = 0 := by
  unfold xs
  split
  · next h => exact ⟨fun e => ⟨h, e⟩, fun e => e.2⟩
  · next h => exact ⟨fun e => absurd e h, fun e => absurd e.1 h⟩
theorem xh_z {lo hi : Int} (h : xh B n q lo hi = 0) : lo ≤ xV B n q ∧ xV B n q ≤ hi := by
  have := @xh_b B n q lo hi
  omega
theorem xrg_z {a1 a2 a3 a4 : Int} (h : (xrg B n q a1 a2 a3 a4).1 = 0) : 0 ≤ xV B n q ∧ xV B n q ≤ a1 ∧ xV B n q + a2 ≤ xV B n (xN B n (xN B n q)) ∧ xV B n (xN B n (xN B n q)) ≤ xV B n q + a3 ∧ xV B n (xN B n (xN B n q)) ≤ a4 := by
  unfold xrg at h
  simp only [xs_iff] at h
  have h1 := xh_z h.1
  have h2 := xh_z h.2.2.1
  omega
theorem xbd_z (h : (xbd B n q d).1 = 0) : (xrg B n (xN B n (xN B n q)) 23 0 7 23).1 = 0 ∧ (xrg B n (xN B n (xN B n (xN B n (xN B n (xN B n (xN B n q)))))) 12 0 4 12).1 = 0 := by
  unfold xbd at h
  simp only [xs_iff] at h
  exact ⟨h.2.2.1, h.2.2.2.2.1⟩
theorem xcs_z (h : (xcs B n q).1 = 0) : (-1 ≤ xhb B n q ∧ xhb B n q ≤ 23) ∧ (0 ≤ xnf B n (xqa B n q) ∧ xnf B n (xqa B n q) ≤ xnt B n (xqa B n q) ∧ xnt B n (xqa B n q) ≤ 24) := by
  unfold xcs xca at h
  have h2 : (xcb B n (xqa B n q) (0, q, xqc B n (xqb B n (xqa B n q)))).1 = 0 := by
    split at h
    · exact (xs_iff.mp h).2
    · exact h
  constructor
  · unfold xhb
    split at h
    · next e =>
      rw [if_pos e]
      have := xh_z (xs_iff.mp h).1
      omega
    · next e =>
      rw [if_neg e]
      omega
  · unfold xcb at h2
    unfold xnf xnt
    split at h2
    · next e =>
      rw [if_pos e, if_pos e]
      have := xrg_z (xs_iff.mp h2).1
      omega
    · next e =>
      rw [if_neg e, if_neg e]
      omega
theorem xaw_b {q : Int} : 0 ≤ xaw B n q ∧ xaw B n q ≤ 1 := by
  unfold xaw
  split <;> omega
theorem xdP_line (hP : xdP d) (h0 : 0 ≤ d 0 3) (h : (xline B n q d).1 = 0) : xdP (xdline B n q d) := by
  unfold xline at h
  unfold xdline
  split
  · exact xdP_cg hP (fun i h1 h2 => xdlaw_r (by omega))
  · next n0 =>
    rw [if_neg n0] at h
    split
    · next n1 =>
      rw [if_pos n1] at h
      unfold xl1 at h
      split at h
      · cases h
      · unfold xper at h
        have h1 := xs_iff.mp h
        have h2 := xbd_z h1.1
        have h3 := xrg_z h2.1
        have h4 := xrg_z h2.2
        have h5 := xcs_z h1.2
        have hk : (((d 0 3).toNat : Nat) : Int) = d 0 3 := by omega
        have h6 := @xdper_k (d 0 3).toNat d B n (xN B n q) hk
        obtain ⟨e1, e2, e3, e4, e5, e6, e7, e8, e9⟩ := h6
        refine xdP_per hP hk ?_
        rw [e2, e3, e4, e5, e6, e7, e8, e9]
        exact ⟨by omega, by omega, by omega, by omega, by omega, by omega, by omega, by omega, by omega, by omega, by omega, by omega, by omega, xaw_b.1, xaw_b.2⟩
    · split
      · exact xdP_cg hP (fun i h1 h2 => by unfold xdsex; rw [wq_u_row (by omega)])
      · split
        · exact xdP_cg hP (fun i h1 h2 => by unfold xdap; rw [wq_u_row (by omega), wq_u_row (by omega), wq_u_row (by omega)])
        · split
          · exact xdP_cg hP (fun i h1 h2 => by unfold xdbo; rw [wq_u_row (by omega), wq_u_row (by omega)])
          · split
            · exact xdP_cg hP (fun i h1 h2 => by unfold xdst; rw [wq_u_row (by omega)])
            · split
              · exact xdP_cg hP (fun i h1 h2 => by unfold xdtl; rw [wq_u_row (by omega), wq_u_row (by omega), wq_u_row (by omega)])
              · exact xdP_cg hP (fun i h1 h2 => by unfold xdof; rw [wq_u_row (by omega), wq_u_row (by omega), wq_u_row (by omega)])
theorem xd03_line (h0 : 0 ≤ d 0 3) : 0 ≤ xdline B n q d 0 3 := by
  unfold xdline
  split
  · rw [xdlaw_v.2.2.2.1]
    exact h0
  · split
    · rw [xdper_v.2.2.2.1]
      omega
    · split
      · rw [xdsex_v.2.2.2.1]
        exact h0
      · split
        · rw [xdap_v.2.2.2.1]
          exact h0
        · split
          · rw [xdbo_v.2.2.2.1]
            exact h0
          · split
            · show 0 ≤ wq_u d 13 (xV B n (xN B n q)).toNat (xV B n (xN B n (xN B n (xN B n q))) + 1) 0 3
              rw [wq_u_row (by decide)]
              exact h0
            · split
              · rw [xdtl_v.2.2.2.1]
                exact h0
              · rw [xdof_v.2.2.2.1]
                exact h0
theorem xdP_xpf : ∀ (f : Nat) (q : Int) (d : xD), xdP d → 0 ≤ d 0 3 → (xpf B n f q d).1.1 = 0 → xdP (xpf B n f q d).2
  | 0, q, d, hP, h0, h => absurd (show (1 : Int) = 0 from h) (by decide)
  | f + 1, q, d, hP, h0, h => by
    unfold xpf at h ⊢
    split at h
    · next a =>
      rw [if_pos a]
      have hP2 := xdP_line hP h0 a
      split at h
      · next b =>
        rw [if_pos b]
        split at h
        · next c =>
          rw [if_pos c]
          exact hP2
        · cases h
      · next b =>
        rw [if_neg b]
        split at h
        · next c =>
          rw [if_pos c]
          exact xdP_xpf f _ _ hP2 (xd03_line h0) h
        · cases h
    · next a => exact absurd h a
theorem xdP_parse (h : (xparse B n).1.1 = 0) : xdP (xparse B n).2 := xdP_xpf 902 _ xD0 xdP_0 (by decide) h
end XDP
