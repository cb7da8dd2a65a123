/-! What the law's dinner does, as functions: f its ints, r its rows (both in the order of the class's Dinner), G its glances (from, to, seconds to go), k of them. -/
section SP
theorem nI_m1 {q : Nat} (h : q < 2 ^ 31) : ¬ nI q = -1 := by
  intro e
  have h1 := nI_pos' h
  rw [e] at h1
  exact absurd h1 (by decide)
theorem nI_m1' {g : Nat} (h : 0 < g) : nI g - 1 = nI (g - 1) := by
  have e : nI g = nI (g - 1) + nI 1 := by rw [nI_add]; congr 1; omega
  rw [e, show nI 1 = 1 from rfl, Int32.add_sub_cancel]
theorem mUp {f : Nat → Int32} {k j : Nat} {x : Int32} (h : j ≠ k) : upd f k x j = f j := pk_un h
theorem mUs {f : Nat → Int32} {k : Nat} {x : Int32} : upd f k x k = x := pk_us
theorem vaUp {α : Type} {r : Nat → α} {k j : Nat} {x : α} (h : j ≠ k) : va_up r k x j = r j := if_neg h
theorem vaUs {α : Type} {r : Nat → α} {k : Nat} {x : α} : va_up r k x k = x := if_pos rfl
abbrev sS : Type := (Nat → Int32) × (Nat → Nat → Int32) × (Nat → Nat → Int32)
/-- seats between two guests -/
def sN (n x y : Nat) : Nat := if (x - y) + (y - x) ≤ n - ((x - y) + (y - x)) then (x - y) + (y - x) else n - ((x - y) + (y - x))
theorem sN_all : ∀ n : Fin 11, ∀ x y : Fin 10, x.val < n.val → y.val < n.val → dSeats (nI n.val) (nI x.val) (nI y.val) = nI (sN n.val x.val y.val) ∧ sN n.val x.val y.val ≤ 5 ∧ (∀ i : Fin 6, i.val < sN n.val x.val y.val → ¬ (x.val + i.val) % n.val = y.val ∧ ¬ (y.val + i.val) % n.val = x.val) ∧ ((x.val + sN n.val x.val y.val) % n.val = y.val ∨ (y.val + sN n.val x.val y.val) % n.val = x.val) := by decide +kernel
theorem sN_eq {n x y : Nat} (hn : n ≤ 10) (ux : x < n) (uy : y < n) : dSeats (nI n) (nI x) (nI y) = nI (sN n x y) := (sN_all ⟨n, by omega⟩ ⟨x, by omega⟩ ⟨y, by omega⟩ ux uy).1
theorem sN_le {n x y : Nat} (hn : n ≤ 10) (ux : x < n) (uy : y < n) : sN n x y ≤ 5 := (sN_all ⟨n, by omega⟩ ⟨x, by omega⟩ ⟨y, by omega⟩ ux uy).2.1
theorem sN_lt {n x y i : Nat} (hn : n ≤ 10) (ux : x < n) (uy : y < n) (hi : i < sN n x y) : ¬ (x + i) % n = y ∧ ¬ (y + i) % n = x := (sN_all ⟨n, by omega⟩ ⟨x, by omega⟩ ⟨y, by omega⟩ ux uy).2.2.1 ⟨i, by have := sN_le hn ux uy; omega⟩ hi
theorem sN_end {n x y : Nat} (hn : n ≤ 10) (ux : x < n) (uy : y < n) : (x + sN n x y) % n = y ∨ (y + sN n x y) % n = x := (sN_all ⟨n, by omega⟩ ⟨x, by omega⟩ ⟨y, by omega⟩ ux uy).2.2.2
/-- q and the first cells of a row, added -/
def sAll (q : Int32) (u : Nat → Int32) : Nat → Int32
  | 0 => q
  | i + 1 => sAll q u i + u i
theorem sAll_eq (q : Int32) (u : Nat → Int32) : ∀ n, sAll q u n = dSum u n + q
  | 0 => by
    show q = 0 + q
    rw [Int32.zero_add]
  | n + 1 => by
    show sAll q u n + u n = dSum u n + u n + q
    rw [sAll_eq q u n, Int32.add_assoc, Int32.add_assoc, Int32.add_comm q]
def sMade (e : Int32) : Int32 := if e < 4 then 6 + e else 14 - e
def sRated (e : Int32) : Int32 := if sMade e < 0 then 0 else sMade e
/-- the first glance there, or -1 -/
def sFind (G : Nat → Nat → Int32) (x y : Int32) : Nat → Nat → Int32
  | 0, _ => -1
  | j + 1, i => if G i 0 = x ∧ G i 1 = y ∧ 0 ≤ G i 2 then nI i else sFind G x y j (i + 1)
theorem sFind_lt (G : Nat → Nat → Int32) (x y : Int32) : ∀ j i, (sFind G x y j i = -1 ∧ ∀ q, i ≤ q → q < i + j → ¬ (G q 0 = x ∧ G q 1 = y ∧ 0 ≤ G q 2)) ∨ ∃ q, i ≤ q ∧ q < i + j ∧ sFind G x y j i = nI q ∧ G q 0 = x ∧ G q 1 = y ∧ 0 ≤ G q 2
  | 0, i => Or.inl ⟨rfl, fun q h1 h2 => by omega⟩
  | j + 1, i => by
    by_cases h : G i 0 = x ∧ G i 1 = y ∧ 0 ≤ G i 2
    · refine Or.inr ⟨i, Nat.le_refl i, by omega, ?_, h⟩
      unfold sFind
      rw [if_pos h]
    · have e : sFind G x y (j + 1) i = sFind G x y j (i + 1) := by
        show (if G i 0 = x ∧ G i 1 = y ∧ 0 ≤ G i 2 then nI i else sFind G x y j (i + 1)) = _
        rw [if_neg h]
      rcases sFind_lt G x y j (i + 1) with ⟨h1, h2⟩ | ⟨q, h1, h2, h3, h4⟩
      · refine Or.inl ⟨by rw [e]; exact h1, fun q a1 a2 => ?_⟩
        by_cases hq : q = i
        · subst hq
          exact h
        · exact h2 q (by omega) (by omega)
      · exact Or.inr ⟨q, by omega, by omega, by rw [e]; exact h3, h4⟩
/-- whether a glance is under way, which are, and how many -/
def sLive (G : Nat → Nat → Int32) (i : Nat) : Bool := decide (0 ≤ G i 2)
def sIds (G : Nat → Nat → Int32) (k : Nat) : List Nat := (List.range k).filter (sLive G)
def sCnt (G : Nat → Nat → Int32) (i : Nat) : Nat := (sIds G i).length
def sSel (G : Nat → Nat → Int32) (k j : Nat) : Nat := (sIds G k).getD j 0
theorem sIds_s (G : Nat → Nat → Int32) (i : Nat) : sIds G (i + 1) = sIds G i ++ (if 0 ≤ G i 2 then [i] else []) := by
  unfold sIds
  rw [List.range_succ, List.filter_append]
  congr 1
  by_cases h : 0 ≤ G i 2
  · rw [if_pos h]
    simp [sLive, h]
  · rw [if_neg h]
    simp [sLive, h]
theorem sCnt_t {G : Nat → Nat → Int32} {i : Nat} (h : 0 ≤ G i 2) : sCnt G (i + 1) = sCnt G i + 1 := by
  unfold sCnt
  rw [sIds_s, if_pos h, List.length_append]
  rfl
theorem sCnt_f {G : Nat → Nat → Int32} {i : Nat} (h : ¬ 0 ≤ G i 2) : sCnt G (i + 1) = sCnt G i := by
  unfold sCnt
  rw [sIds_s, if_neg h, List.append_nil]
theorem sCnt_le (G : Nat → Nat → Int32) : ∀ i, sCnt G i ≤ i
  | 0 => Nat.le_refl 0
  | i + 1 => by
    have h := sCnt_le G i
    by_cases e : 0 ≤ G i 2
    · rw [sCnt_t e]; omega
    · rw [sCnt_f e]; omega
theorem sCnt_mono (G : Nat → Nat → Int32) (i : Nat) : ∀ d, sCnt G i ≤ sCnt G (i + d)
  | 0 => Nat.le_refl _
  | d + 1 => by
    have h := sCnt_mono G i d
    have e9 : i + (d + 1) = (i + d) + 1 := by omega
    rw [e9]
    by_cases e : 0 ≤ G (i + d) 2
    · rw [sCnt_t e]; omega
    · rw [sCnt_f e]; omega
theorem sIds_pre (G : Nat → Nat → Int32) (i : Nat) : ∀ d, ∃ T, sIds G (i + d) = sIds G i ++ T
  | 0 => ⟨[], by rw [List.append_nil]; rfl⟩
  | d + 1 => by
    obtain ⟨T, h⟩ := sIds_pre G i d
    have e9 : i + (d + 1) = (i + d) + 1 := by omega
    exact ⟨T ++ (if 0 ≤ G (i + d) 2 then [i + d] else []), by rw [e9, sIds_s, h, List.append_assoc]⟩
theorem sSel_cnt {G : Nat → Nat → Int32} {k i : Nat} (hi : i < k) (h : 0 ≤ G i 2) : sSel G k (sCnt G i) = i := by
  obtain ⟨T, e⟩ := sIds_pre G (i + 1) (k - (i + 1))
  have ek : i + 1 + (k - (i + 1)) = k := by omega
  rw [ek] at e
  unfold sSel sCnt
  rw [e, sIds_s, if_pos h, List.append_assoc, List.getD_eq_getElem?_getD, List.getElem?_append_right (Nat.le_refl _), Nat.sub_self]
  rfl
/-- the places of the row that is made, i glances looked at -/
def sMk (ga : Nat → Nat) (G : Nat → Nat → Int32) (k i : Nat) : Nat → Option Nat := fun j => if j < sCnt G i then some (ga (sSel G k j)) else none
theorem sMk_0 (ga : Nat → Nat) (G : Nat → Nat → Int32) (k : Nat) : sMk ga G k 0 = fun _ => none := by
  funext j
  have h : sCnt G 0 = 0 := rfl
  unfold sMk
  rw [h, if_neg (by omega)]
theorem sMk_t {ga : Nat → Nat} {G : Nat → Nat → Int32} {k i : Nat} (hi : i < k) (h : 0 ≤ G i 2) : va_up (sMk ga G k i) (sCnt G i) (some (ga i)) = sMk ga G k (i + 1) := by
  funext j
  unfold sMk
  rw [sCnt_t h]
  by_cases e : j = sCnt G i
  · subst e
    rw [vaUs, if_pos (by omega), sSel_cnt hi h]
  · rw [vaUp e]
    by_cases e2 : j < sCnt G i
    · rw [if_pos e2, if_pos (by omega)]
    · rw [if_neg e2, if_neg (by omega)]
theorem sMk_f {ga : Nat → Nat} {G : Nat → Nat → Int32} {k i : Nat} (h : ¬ 0 ≤ G i 2) : sMk ga G k (i + 1) = sMk ga G k i := by
  funext j
  unfold sMk
  rw [sCnt_f h]
/-- behind a sending: where the glances lie, and what they are -/
def sGa (ga : Nat → Nat) (G : Nat → Nat → Int32) (k q : Nat) : Nat → Nat := fun j => if j < sCnt G k then ga (sSel G k j) else q
def sRow (x y w : Int32) : Nat → Int32 := upd (upd (upd (fun _ => 0) 0 x) 1 y) 2 w
def sGn (G : Nat → Nat → Int32) (k : Nat) (x y w : Int32) : Nat → Nat → Int32 := fun j => if j < sCnt G k then G (sSel G k j) else sRow x y w
/-- a second -/
def sDec (G : Nat → Nat → Int32) : Nat → (Nat → Nat → Int32)
  | 0 => G
  | i + 1 => if 0 < sDec G i i 2 then gUp (sDec G i) i 2 (sDec G i i 2 - 1) else sDec G i
def sBack (k : Nat) (s : sS) (i : Nat) : Int32 := sFind s.2.2 (s.2.2 i 1) (s.2.2 i 0) k 0
def sArr (k : Nat) (s : sS) (i : Nat) : sS :=
  if 0 ≤ sBack k s i then (upd s.1 7 (s.1 7 + 1), va_up s.2.1 3 (upd (upd (s.2.1 3) (dN (s.2.2 i 0)) (s.2.1 3 (dN (s.2.2 i 0)) + 3)) (dN (s.2.2 i 1)) (upd (s.2.1 3) (dN (s.2.2 i 0)) (s.2.1 3 (dN (s.2.2 i 0)) + 3) (dN (s.2.2 i 1)) + 3)), gUp (gUp s.2.2 i 2 (-1)) (dN (sBack k s i)) 2 (-1))
  else if s.1 3 = s.2.2 i 1 then (upd s.1 8 (s.1 8 + 1), s.2.1, gUp s.2.2 i 2 (-1))
  else (s.1, va_up (va_up s.2.1 3 (upd (s.2.1 3) (dN (s.2.2 i 0)) (s.2.1 3 (dN (s.2.2 i 0)) + 1))) 5 (upd (s.2.1 5) (dN (s.2.2 i 0) * 10 + dN (s.2.2 i 1)) (s.2.1 5 (dN (s.2.2 i 0) * 10 + dN (s.2.2 i 1)) + 1)), gUp s.2.2 i 2 (-1))
def sArrs (k : Nat) (s : sS) : Nat → sS
  | 0 => s
  | i + 1 => if (sArrs k s i).2.2 i 2 = 0 then sArr k (sArrs k s i) i else sArrs k s i
def sPass (k : Nat) (s : sS) : sS := (upd (sArrs k ((dTalk s.1 s.2.1).1, (dTalk s.1 s.2.1).2, sDec s.2.2 k) k).1 1 ((sArrs k ((dTalk s.1 s.2.1).1, (dTalk s.1 s.2.1).2, sDec s.2.2 k) k).1 1 + 1), (sArrs k ((dTalk s.1 s.2.1).1, (dTalk s.1 s.2.1).2, sDec s.2.2 k) k).2.1, (sArrs k ((dTalk s.1 s.2.1).1, (dTalk s.1 s.2.1).2, sDec s.2.2 k) k).2.2)
def sGo (k : Nat) (s : sS) : Nat → sS
  | 0 => s
  | i + 1 => sPass k (sGo k s i)
theorem sDec_c {G : Nat → Nat → Int32} {j c : Nat} (h : c ≠ 2) : ∀ i, sDec G i j c = G j c
  | 0 => rfl
  | i + 1 => by
    have ih := sDec_c (G := G) (j := j) h i
    unfold sDec
    split
    · rw [gUp_j h]; exact ih
    · exact ih
theorem sArr_c {k : Nat} {s : sS} {i j c : Nat} (h : c ≠ 2) : (sArr k s i).2.2 j c = s.2.2 j c := by
  unfold sArr
  split
  · show gUp (gUp _ _ _ _) _ _ _ j c = _
    rw [gUp_j h, gUp_j h]
  · split
    · show gUp _ _ _ _ j c = _
      rw [gUp_j h]
    · show gUp _ _ _ _ j c = _
      rw [gUp_j h]
theorem sArrs_c {k : Nat} {s : sS} {j c : Nat} (h : c ≠ 2) : ∀ i, (sArrs k s i).2.2 j c = s.2.2 j c
  | 0 => rfl
  | i + 1 => by
    have ih := sArrs_c (k := k) (s := s) (j := j) h i
    unfold sArrs
    split
    · rw [sArr_c h]; exact ih
    · exact ih
theorem sFind_in {G : Nat → Nat → Int32} {x y : Int32} {k : Nat} (hk : k ≤ 100) (h : 0 ≤ sFind G x y k 0) : ∃ q, q < k ∧ sFind G x y k 0 = nI q ∧ dN (sFind G x y k 0) = q := by
  rcases sFind_lt G x y k 0 with ⟨h1, -⟩ | ⟨q, -, h2, h3, -⟩
  · rw [h1] at h
    exact absurd h (by decide)
  · exact ⟨q, by omega, h3, by rw [h3]; exact dN_nI (by omega)⟩
end SP
