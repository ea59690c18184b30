/-! new packets -/
section PN
variable {G : ho_G} {σ : ho_H} {N : Nat} {w : Nat → Nat} {O : Nat}
/-- the head of a packet -/
def pkhd (g kd : Int32) (n : Nat) : Nat → Int32 := upd (upd (upd (upd (upd (upd (fun _ => 0) 0 (ho_ur g 24)) 1 ((ho_ur g 16) &&& 255)) 2 ((ho_ur g 8) &&& 255)) 3 (g &&& 255)) 4 kd) 5 (ii n)
theorem Pk_init1_S {p n : Nat} {g kd : Int32} (hw : wf G σ) (hp : σ.2.2 p = some (.inr (3, [.null]))) (hn : n ≤ 32) (r1 : σ.1 + 1 ≤ gC G) (r2 : σ.2.1 + 68 ≤ gS G) : f_Pk_init1 G N σ p g kd (ii n) = some (ho_set (ho_set (new σ (36 + n) (.inl (gc G 0, 36 + n, .inl fun _ => 0))) p (.inr (3, [.ref σ.1]))) σ.1 (.inl (gc G 0, 36 + n, .inl (pkhd g kd n)))) := by
  have hps := hw.lt hp
  have e0 : (36 : Int32) + ii n = ii (36 + n) := ii_add 36 n
  have b1 : (new σ (36 + n) (.inl (gc G 0, 36 + n, .inl fun _ => 0))).2.2 p = some (.inr (3, [.null])) := by rw [new_ne (by omega)]; exact hp
  have b2 : ho_p (new σ (36 + n) (.inl (gc G 0, 36 + n, .inl fun _ => 0))) p 3 0 (.ref σ.1) = some (ho_set (new σ (36 + n) (.inl (gc G 0, 36 + n, .inl fun _ => 0))) p (.inr (3, [.ref σ.1]))) := c_p b1 (show 0 < 1 by decide)
  have b3 : (ho_set (new σ (36 + n) (.inl (gc G 0, 36 + n, .inl fun _ => 0))) p (.inr (3, [.ref σ.1]))).2.2 σ.1 = some (.inl (gc G 0, 36 + n, .inl fun _ => 0)) := by rw [set_ne (by omega)]; exact new_at
  have b4 : (ho_set (new σ (36 + n) (.inl (gc G 0, 36 + n, .inl fun _ => 0))) p (.inr (3, [.ref σ.1]))).2.2 p = some (.inr (3, [.ref σ.1])) := set_at
  unfold f_Pk_init1
  rw [e0, nwI_S r1 (by omega) (by omega), bd2_S, b2, bd_S]
  generalize ho_set (new σ (36 + n) (.inl (gc G 0, 36 + n, .inl fun _ => 0))) p (.inr (3, [.ref σ.1])) = σ1 at b3 b4 ⊢
  generalize σ.1 = m at b3 b4 hps ⊢
  have hpm : p ≠ m := by omega
  have st : ∀ (f : Nat → Int32) (i : Nat) (x : Int32), i < 6 → ho_stI G (ho_set σ1 m (.inl (gc G 0, 36 + n, .inl f))) m (ii i) x = some (ho_set σ1 m (.inl (gc G 0, 36 + n, .inl (upd f i x)))) := fun f i x hi => by rw [c_st set_at (by omega) (by omega), set_set]
  have rd : ∀ f : Nat → Int32, ho_gR (ho_set σ1 m (.inl (gc G 0, 36 + n, .inl f))) p 3 0 = some m := fun f => c_R (by rw [set_ne hpm]; exact b4) rfl
  have s0 : σ1 = ho_set σ1 m (.inl (gc G 0, 36 + n, .inl fun _ => 0)) := (set_self b3).symm
  rw [s0, rd, bd_S, show (0 : Int32) = ii 0 from rfl, st _ 0 _ (by decide), bd_S, rd, bd_S, show (1 : Int32) = ii 1 from rfl, st _ 1 _ (by decide), bd_S, rd, bd_S, show (2 : Int32) = ii 2 from rfl, st _ 2 _ (by decide), bd_S, rd, bd_S, show (3 : Int32) = ii 3 from rfl, st _ 3 _ (by decide), bd_S, rd, bd_S, show (4 : Int32) = ii 4 from rfl, st _ 4 _ (by decide), bd_S, rd, bd_S, show (5 : Int32) = ii 5 from rfl, st _ 5 _ (by decide), bd_S, set_set]
  rfl
theorem Pk_init2_S {p p' m' n : Nat} {f : Nat → Int32} (hw : wf G σ) (hp : σ.2.2 p = some (.inr (3, [.null]))) (h1 : σ.2.2 p' = some (.inr (3, [.ref m']))) (h2 : σ.2.2 m' = some (.inl (gc G 0, n, .inl f))) (r1 : σ.1 + 1 ≤ gC G) (r2 : σ.2.1 + n ≤ gS G) : f_Pk_init2 G N σ p p' = some (ho_set (new σ n (.inl (gc G 0, n, .inl f))) p (.inr (3, [.ref σ.1]))) := by
  have hps := hw.lt hp
  have e1 : ho_clI G σ m' = some (new σ n (.inl (gc G 0, n, .inl f)), σ.1) := by
    unfold ho_clI
    rw [c_a h2, bd_S, al_S r1 r2]
  have b1 : (new σ n (.inl (gc G 0, n, .inl f))).2.2 p = some (.inr (3, [.null])) := by rw [new_ne (by omega)]; exact hp
  have b2 : ho_p (new σ n (.inl (gc G 0, n, .inl f))) p 3 0 (.ref σ.1) = some (ho_set (new σ n (.inl (gc G 0, n, .inl f))) p (.inr (3, [.ref σ.1]))) := c_p b1 (show 0 < 1 by decide)
  unfold f_Pk_init2
  rw [c_R h1 rfl, bd_S, e1, bd2_S, c_a new_at, bd_S, b2, bd_S]
end PN
