/-! what a receiver does, without heaps -/
/-- a packet: its length, its bytes -/
abbrev PQ : Type := Nat × (Nat → Int32)
/-- what is known of chains: first number, latest number, the latest key's bytes -/
abbrev KN : Type := Nat → Option (Nat × Nat × (Nat → Int32))
/-- known, held, released, counts -/
abbrev RS : Type := KN × List PQ × List PQ × (Nat → Int32)
def dnN : Nat → (Nat → Int32) → Nat → Int32
  | 0, K => K
  | j + 1, K => s_dn (dnN j K)
theorem dnN_congr {a b : Nat → Int32} (e : ∀ k, k < 20 → a k = b k) : ∀ j k, k < 20 → dnN j a k = dnN j b k := by
  intro j
  induction j with
  | zero => exact e
  | succ j ih => exact fun k hk => s_dn_congr ih k (by omega)
theorem dnN_add {K : Nat → Int32} {i j : Nat} : dnN i (dnN j K) = dnN (i + j) K := by
  induction i with
  | zero => rw [Nat.zero_add]; rfl
  | succ i ih => rw [Nat.succ_add]; show s_dn (dnN i (dnN j K)) = s_dn (dnN (i + j) K); rw [ih]
def gN (q : PQ) : Nat := (s_wd q.2 0).toNatClampNeg
def nN (q : PQ) : Nat := (q.2 5).toNatClampNeg
def kN (q : PQ) : Nat := (q.2 4).toNatClampNeg
def ch (g : Nat) : Nat := (g - 1) / 64
def nu (g : Nat) : Nat := (g - 1) % 64 + 1
theorem ch_lt {g : Nat} (h : g ≤ 512) : ch g < 8 := by unfold ch; omega
theorem nu_le {g : Nat} : nu g ≤ 64 := by unfold nu; omega
theorem nu_ge {g : Nat} : 1 ≤ nu g := by unfold nu; omega
/-- a packet as it may come -/
def pkB (q : PQ) : Prop := 36 ≤ q.1 ∧ q.1 ≤ 68 ∧ ∀ k, k < q.1 → isb (q.2 k)
/-- a packet that is not broken -/
def pkV (q : PQ) : Prop := q.1 = 36 + nN q ∧ nN q ≤ 32 ∧ kN q ≤ 1 ∧ (kN q = 1 → nN q = 20) ∧ 1 ≤ gN q ∧ gN q ≤ 512 ∧ s_wd q.2 0 = ii (gN q) ∧ q.2 5 = ii (nN q) ∧ q.2 4 = ii (kN q) ∧ ∀ k, k < q.1 → isb (q.2 k)
theorem pkB.n {q : PQ} (h : pkB q) : q.2 5 = ii (nN q) ∧ nN q < 256 := by
  obtain ⟨n, hn, e⟩ := isb_nat (h.2.2 5 (by have := h.1; omega))
  have e2 : nN q = n := by unfold nN; rw [e, ii_nat (by omega)]
  rw [e2]
  exact ⟨e, hn⟩
theorem pkB.k {q : PQ} (h : pkB q) : q.2 4 = ii (kN q) ∧ kN q < 256 := by
  obtain ⟨n, hn, e⟩ := isb_nat (h.2.2 4 (by have := h.1; omega))
  have e2 : kN q = n := by unfold kN; rw [e, ii_nat (by omega)]
  rw [e2]
  exact ⟨e, hn⟩
theorem i1 {x : Int32} (h : ¬ x < 1) (h2 : x ≤ 512) : x = ii x.toNatClampNeg ∧ 1 ≤ x.toNatClampNeg ∧ x.toNatClampNeg ≤ 512 := by
  rw [Int32.lt_iff_toInt_lt] at h
  rw [Int32.le_iff_toInt_le] at h2
  have e1 : (1 : Int32).toInt = 1 := rfl
  have e2 : (512 : Int32).toInt = 512 := rfl
  have e3 : x.toNatClampNeg = x.toInt.toNat := rfl
  rw [e1] at h
  rw [e2] at h2
  refine ⟨?_, by omega, by omega⟩
  apply Int32.toInt_inj.mp
  rw [ii_toInt (by omega)]
  omega
theorem pkV_of {q : PQ} (h : pkB q) (ho : pkok q.1 (nN q) (kN q) (s_wd q.2 0)) : pkV q := by
  obtain ⟨h1, h2, h3, h4, h5, h6⟩ := ho
  obtain ⟨e1, e2, e3⟩ := i1 h5 h6
  exact ⟨h1, h2, h3, h4, e2, e3, e1, h.n.1, h.k.1, h.2.2⟩
theorem pkok_of {q : PQ} (h : pkV q) : pkok q.1 (nN q) (kN q) (s_wd q.2 0) := by
  obtain ⟨h1, h2, h3, h4, h5, h6, h7, -⟩ := h
  refine ⟨h1, h2, h3, h4, ?_, ?_⟩
  · rw [h7, show (1 : Int32) = ii 1 from rfl, ii_lt (by omega) (by decide)]
    omega
  · rw [h7, show (512 : Int32) = ii 512 from rfl, ii_le (by omega) (by decide)]
    exact h6
def due (kn : KN) (g : Nat) : Bool := match kn (ch g) with
  | none => false
  | some (_, v, _) => decide (nu g ≤ v)
def keyOf (kn : KN) (g : Nat) : Nat → Int32 := match kn (ch g) with
  | none => fun _ => 0
  | some (_, v, K) => dnN (v - nu g) K
def codeOK (kn : KN) (q : PQ) : Bool := decide (∀ i : Nat, i < 10 → q.2 (6 + nN q + i) = s_cd (keyOf kn (gN q)) q.2 (6 + nN q) i)
/-- the held one that goes out next, and its interval -/
def bst (kn : KN) (h : List PQ) : Nat → Option Nat × Nat
  | 0 => (none, 513)
  | k + 1 => match h[k]? with
    | none => bst kn h k
    | some q => if gN q < (bst kn h k).2 ∧ due kn (gN q) = true then (some k, gN q) else bst kn h k
def learn (kn : KN) (q : PQ) : KN := if kN q = 1 ∧ ch (gN q) + 1 < 8 ∧ (kn (ch (gN q) + 1)).isNone = true then fun c => if c = ch (gN q) + 1 then some (0, 0, fun i => q.2 (6 + i)) else kn c else kn
def relQ (s : RS) (b : Nat) (q : PQ) : RS := if codeOK s.1 q = true then (learn s.1 q, s.2.1.eraseIdx b, s.2.2.1 ++ [q], s.2.2.2) else (s.1, s.2.1.eraseIdx b, s.2.2.1, upd s.2.2.2 6 (s.2.2.2 6 + 1))
def rel1 (s : RS) : RS := match (bst s.1 s.2.1 s.2.1.length).1 with
  | none => s
  | some b => match s.2.1[b]? with
    | none => s
    | some q => relQ s b q
def relN : Nat → RS → RS
  | 0, s => s
  | n + 1, s => relN n (rel1 s)
/-- the key that a packet shows: 0 nothing new, 1 a new latest key, 2 wrong -/
def tkey (lag : Nat) (kn : KN) (q : PQ) : Nat × KN := if gN q ≤ lag then (0, kn) else match kn (ch (gN q - lag)) with
  | none => (0, kn)
  | some (fi, v, K) => if nu (gN q - lag) < fi then (0, kn) else if nu (gN q - lag) ≤ v then (if ∀ i : Nat, i < 20 → q.2 (16 + nN q + i) = dnN (v - nu (gN q - lag)) K i then (0, kn) else (2, kn)) else (if ∀ i : Nat, i < 20 → dnN (nu (gN q - lag) - v) (fun i => q.2 (16 + nN q + i)) i = K i then (1, fun c => if c = ch (gN q - lag) then some (fi, nu (gN q - lag), fun i => q.2 (16 + nN q + i)) else kn c) else (2, kn))
def twins (h : List PQ) (q : PQ) : Bool := h.any fun x => decide (s_wd x.2 0 = s_wd q.2 0 ∧ ∀ i : Nat, i < 10 → x.2 (6 + nN x + i) = q.2 (6 + nN q + i))
/-- late by the clock: lag, ticks, error, time -/
def late (C : Int32 × Int32 × Int32 × Int32) (dr : Int32) (g : Int32) : Bool := decide (¬ (C.2.2.2 + dr) + C.2.2.1 < ((g + C.1) - 1) * C.2.1)
def arr2 (C : Int32 × Int32 × Int32 × Int32) (dr : Int32) (s : RS) (q : PQ) : Nat × RS := if late C dr (s_wd q.2 0) = true ∨ due s.1 (gN q) = true then (1, s) else if twins s.2.1 q = true then (3, s) else if s.2.1.length < 16 then (0, (s.1, s.2.1 ++ [q], s.2.2)) else (4, s)
def arr (lag : Nat) (C : Int32 × Int32 × Int32 × Int32) (dr : Int32) (s : RS) (q : PQ) : Nat × RS := if q.1 = 36 + nN q ∧ nN q ≤ 32 ∧ kN q ≤ 1 ∧ (kN q = 1 → nN q = 20) ∧ ¬ s_wd q.2 0 < 1 ∧ s_wd q.2 0 ≤ 512 then (if (tkey lag s.1 q).1 = 2 then (2, s) else arr2 C dr (relN 16 ((tkey lag s.1 q).2, s.2)) q) else (5, s)
/-- what is known is in order -/
def knV (kn : KN) : Prop := ∀ c fi v K, kn c = some (fi, v, K) → fi ≤ v ∧ v ≤ 64
/-- held ones are not below the first key -/
def hdV (kn : KN) (h : List PQ) : Prop := ∀ (i : Nat) (q : PQ), h[i]? = some q → pkV q ∧ ∀ fi v K, kn (ch (gN q)) = some (fi, v, K) → fi ≤ nu (gN q)
def otV (kn : KN) (o : List PQ) : Prop := ∀ (i : Nat) (q : PQ), o[i]? = some q → pkV q ∧ due kn (gN q) = true
def rsV (s : RS) : Prop := knV s.1 ∧ hdV s.1 s.2.1 ∧ s.2.1.length ≤ 16 ∧ otV s.1 s.2.2.1
/-- none is due -/
def ndV (kn : KN) (h : List PQ) : Prop := ∀ (i : Nat) (q : PQ), h[i]? = some q → due kn (gN q) = false
theorem bst_some {kn : KN} {h : List PQ} : ∀ n b, (bst kn h n).1 = some b → ∃ q, h[b]? = some q ∧ b < n ∧ due kn (gN q) = true ∧ (bst kn h n).2 = gN q := by
  intro n
  induction n with
  | zero => intro b hb; cases hb
  | succ k ih =>
    intro b hb
    unfold bst at hb ⊢
    cases hk : h[k]? with
    | none =>
      rw [hk] at hb
      obtain ⟨q, h1, h2, h3, h4⟩ := ih b hb
      exact ⟨q, h1, by omega, h3, h4⟩
    | some q =>
      rw [hk] at hb
      dsimp only at hb ⊢
      by_cases hc : gN q < (bst kn h k).2 ∧ due kn (gN q) = true
      · rw [if_pos hc] at hb ⊢
        have := Option.some.inj hb
        subst this
        exact ⟨q, hk, by omega, hc.2, rfl⟩
      · rw [if_neg hc] at hb ⊢
        obtain ⟨q, h1, h2, h3, h4⟩ := ih b hb
        exact ⟨q, h1, by omega, h3, h4⟩
theorem bst_none {kn : KN} {h : List PQ} : ∀ n, (bst kn h n).1 = none → (bst kn h n).2 = 513 ∧ ∀ (i : Nat) (q : PQ), i < n → h[i]? = some q → gN q ≤ 512 → due kn (gN q) = false := by
  intro n
  induction n with
  | zero => intro _; exact ⟨rfl, fun i q hi => absurd hi (by omega)⟩
  | succ k ih =>
    intro hb
    unfold bst at hb ⊢
    cases hk : h[k]? with
    | none =>
      rw [hk] at hb
      obtain ⟨h1, h2⟩ := ih hb
      refine ⟨h1, fun i q hi hq hg => ?_⟩
      by_cases e : i = k
      · rw [e, hk] at hq; cases hq
      · exact h2 i q (by omega) hq hg
    | some q =>
      rw [hk] at hb
      dsimp only at hb ⊢
      by_cases hc : gN q < (bst kn h k).2 ∧ due kn (gN q) = true
      · rw [if_pos hc] at hb
        cases hb
      · rw [if_neg hc] at hb ⊢
        obtain ⟨h1, h2⟩ := ih hb
        refine ⟨h1, fun i x hi hx hg => ?_⟩
        by_cases e : i = k
        · rw [e, hk] at hx
          cases hx
          rw [h1] at hc
          cases hd : due kn (gN q) with
          | false => rfl
          | true => exact absurd ⟨by omega, hd⟩ hc
        · exact h2 i x (by omega) hx hg
theorem bst_nd {kn : KN} {h : List PQ} (hn : ndV kn h) : ∀ n, (bst kn h n).1 = none := by
  intro n
  cases hb : (bst kn h n).1 with
  | none => rfl
  | some b =>
    obtain ⟨q, h1, h2, h3, -⟩ := bst_some n b hb
    rw [hn b q h1] at h3
    cases h3
theorem rel1_nd {s : RS} (hn : ndV s.1 s.2.1) : rel1 s = s := by
  unfold rel1
  rw [bst_nd hn]
theorem relN_nd {s : RS} (hn : ndV s.1 s.2.1) : ∀ n, relN n s = s := by
  intro n
  induction n with
  | zero => rfl
  | succ n ih => unfold relN; rw [rel1_nd hn, ih]
