def tb0 : List Int32 := [1779033703, (-1150833019), 1013904242, (-1521486534), 1359893119, (-1694144372), 528734635, 1541459225]
def tb1 : List Int32 := [1116352408, 1899447441, (-1245643825), (-373957723), 961987163, 1508970993, (-1841331548), (-1424204075), (-670586216), 310598401, 607225278, 1426881987, 1925078388, (-2132889090), (-1680079193), (-1046744716), (-459576895), (-272742522), 264347078, 604807628, 770255983, 1249150122, 1555081692, 1996064986, (-1740746414), (-1473132947), (-1341970488), (-1084653625), (-958395405), (-710438585), 113926993, 338241895, 666307205, 773529912, 1294757372, 1396182291, 1695183700, 1986661051, (-2117940946), (-1838011259), (-1564481375), (-1474664885), (-1035236496), (-949202525), (-778901479), (-694614492), (-200395387), 275423344, 430227734, 506948616, 659060556, 883997877, 958139571, 1322822218, 1537002063, 1747873779, 1955562222, 2024104815, (-2067236844), (-1933114872), (-1866530822), (-1538233109), (-1090935817), (-965641998)]
def tb2 : List Int32 := [99, 104, 97, 105, 110]
def tb3 : List Int32 := [109, 97, 99]
def hv_tabs : List (List Int32) := [tb0, tb1, tb2, tb3]
/-- what the pure part may use of the ghosts: the tables' values, the script, room -/
def pu_ok (G : ho_G) (b : Nat) : Prop := gC G = gB G + 601024 ∧ gS G = 7293000 ∧ (∀ (i : Nat) (vs : List Int32), hv_tabs[i]? = some vs → gA G i < gB G ∧ ∃ f : Nat → Int32, gR G (gA G i) = some (vs.length, f) ∧ ∀ j, j < vs.length → f j = vs.getD j 0) ∧ gA G 4 < gB G ∧ b < gB G ∧ ∃ (L : Nat) (xs : Nat → Int32), L ≤ 3075 ∧ gR G b = some (L, xs)
/-- the pure part: the law's function answers 1 -/
def pu_goal : Prop := ∀ (G : ho_G) (b : Nat), pu_ok G b → ∃ (N : Nat) (σ' : ho_H), f_Lw_law G N (gB G, 0, fun _ => none) b = some (σ', 1)
theorem st_inj {n m : Nat} (hn : n ≤ 3075) (hm : m ≤ 3075) (h : Int32.ofNat n = Int32.ofNat m) : n = m := by
  have h := congrArg Int32.toInt h
  rw [Int32.toInt_ofNat_of_lt (by omega), Int32.toInt_ofNat_of_lt (by omega)] at h
  omega
theorem st_uniq {t n n' : Nat} {f f' : Nat → Int32} {A : Nat → Prop} {U : State} {H : Heap} (h : va_T .int t n (fun j => .int (f j)) A U H) (h' : va_T .int t n' (fun j => .int (f' j)) A U H) (hn : n ≤ 3075) (hn' : n' ≤ 3075) : n = n' ∧ ∀ j, j < n → f j = f' j := by
  obtain ⟨c, a1, a2, a3, a4, a5, a6, a7⟩ := h
  obtain ⟨c', b1, b2, b3, b4, b5, b6, b7⟩ := h'
  have hc : c = c' := Option.some.inj (a1.symm.trans b1)
  subst hc
  have hnn : n = n' := st_inj hn hn' (a5.symm.trans b5)
  subst hnn
  refine ⟨rfl, fun j hj => ?_⟩
  have e := Option.some.inj ((a6 j hj).symm.trans (b6 j hj))
  injection e
theorem st_R (A : Nat → Prop) (U : State) (H : Heap) : ∃ R : Nat → Option (Nat × (Nat → Int32)), ∀ t : Nat, (∀ (n : Nat) (f : Nat → Int32), R t = some (n, f) → n ≤ 3075 ∧ va_T .int t n (fun j => .int (f j)) A U H) ∧ (R t = none → ∀ (n : Nat) (f : Nat → Int32), n ≤ 3075 → ¬ va_T .int t n (fun j => .int (f j)) A U H) := by
  refine Classical.axiomOfChoice (r := fun (t : Nat) (o : Option (Nat × (Nat → Int32))) => (∀ (n : Nat) (f : Nat → Int32), o = some (n, f) → n ≤ 3075 ∧ va_T .int t n (fun j => .int (f j)) A U H) ∧ (o = none → ∀ (n : Nat) (f : Nat → Int32), n ≤ 3075 → ¬ va_T .int t n (fun j => .int (f j)) A U H)) (fun t => ?_)
  rcases Classical.em (∃ (n : Nat) (f : Nat → Int32), n ≤ 3075 ∧ va_T .int t n (fun j => .int (f j)) A U H) with ⟨n, f, h1, h2⟩ | h
  · exact ⟨some (n, f), fun n' f' e => by cases e; exact ⟨h1, h2⟩, fun e => by cases e⟩
  · exact ⟨none, fun n' f' e => (by cases e), fun _ n f h1 h2 => h ⟨n, f, h1, h2⟩⟩
theorem st_one {args : Array Value} {s : State} {tm : Term} {vs : List Int32} {A : Nat → Prop} (hN : vs.length < 2 ^ 31) (harr : (Cond.arrayOf tm .int).before args s = true) (hlen : (Cond.eq (.length tm) (.int (Int32.ofNat vs.length))).before args s = true) (hel : ∀ j, j < vs.length → (Cond.eq (.elem tm (.int (Int32.ofNat j))) (.int (vs.getD j 0))).before args s = true) (hA : ∀ a : Nat, a < s.heap.size → ¬ A a) : ∃ t : Nat, tm.eval args s none [] s = some (.ref t) ∧ va_T .int t vs.length (fun j => .int (vs.getD j 0)) A s s.heap :=
  va_Tof hN harr (va_eqt hlen) (fun j hj => va_eqt (hel j hj)) hA
theorem st_prim {args : Array Value} {s : State} {ty : FieldType} (h : (Cond.arrayClass ty).before args s = true) (hty : ∀ cA : ClassId, s.vm.findClass ("[" ++ ty.toString) = some cA → va_RA s cA ty) : ∃ cA : ClassId, ArrOfT s cA ty ∧ va_RA s cA ty := by
  obtain ⟨c, k, comp, h1, h2, h3⟩ := Cond.arrayClass_spec h
  exact ⟨c, fun n z => ⟨fun k h => (by cases h), k, h2, comp, h3⟩, hty c h1⟩
theorem st_obj {args : Array Value} {s : State} {C : String} (h : (Cond.arrayOver (.object C)).before args s = true) : ∃ cA : ClassId, ArrOfT s cA (.object C) ∧ va_RA s cA (.object C) := by
  obtain ⟨comp, c, k, h1, h2, h3, h4, h5⟩ := Cond.arrayOver_spec h
  exact ⟨c, fun n z => ⟨fun k h => (by cases h), k, h3, comp, h4⟩, k, comp, h3, h4, h1, h5⟩
theorem st_K {args : Array Value} {s : State} (hts : ∀ w ∈ lw_tbl, w.before args s = true) : ∃ D : va_G, ∀ (c : Nat) (q : vw_C), vwCl[c]? = some q → u_Kn s q.1 q.2.1 q.2.2 (D.1 c) (D.2 c) := by
  have hw : ∀ w ∈ hv_ws, w.before args s = true := fun w h => hts w (List.mem_filter.mp h).1
  have h : ∀ c : Nat, ∃ z : ClassId × (Nat → Nat), ∀ q, vwCl[c]? = some q → u_Kn s q.1 q.2.1 q.2.2 z.1 z.2 := by
    intro c
    match c with
    | 0 =>
      obtain ⟨a, b, h⟩ := u_known (C := R0) (T := T0) (N := 4) (n := 4) hw hin0 (hts _ (List.mem_append_right _ (wc_1 (List.mem_of_getElem? (i := 33) rfl))))
      exact ⟨(a, b), fun q hq => by cases hq; exact h⟩
    | 1 =>
      obtain ⟨a, b, h⟩ := u_known (C := R1) (T := T1) (N := 5) (n := 5) hw hin1 (hts _ (List.mem_append_right _ (wc_1 (List.mem_of_getElem? (i := 58) rfl))))
      exact ⟨(a, b), fun q hq => by cases hq; exact h⟩
    | 2 =>
      obtain ⟨a, b, h⟩ := u_known (C := R2) (T := T2) (N := 3) (n := 3) hw hin2 (hts _ (List.mem_append_right _ (wc_1 (List.mem_of_getElem? (i := 86) rfl))))
      exact ⟨(a, b), fun q hq => by cases hq; exact h⟩
    | 3 =>
      obtain ⟨a, b, h⟩ := u_known (C := R3) (T := T3) (N := 1) (n := 1) hw hin3 (hts _ (List.mem_append_right _ (wc_2 (List.mem_of_getElem? (i := 178) rfl))))
      exact ⟨(a, b), fun q hq => by cases hq; exact h⟩
    | 4 =>
      obtain ⟨a, b, h⟩ := u_known (C := R4) (T := T4) (N := 8) (n := 8) hw hin4 (hts _ (List.mem_append_right _ (wc_1 (List.mem_of_getElem? (i := 131) rfl))))
      exact ⟨(a, b), fun q hq => by cases hq; exact h⟩
    | 5 =>
      obtain ⟨a, b, h⟩ := u_known (C := R5) (T := T5) (N := 7) (n := 7) hw hin5 (hts _ (List.mem_append_right _ (wc_1 (List.mem_of_getElem? (i := 25) rfl))))
      exact ⟨(a, b), fun q hq => by cases hq; exact h⟩
    | 6 =>
      obtain ⟨a, b, h⟩ := u_known (C := R6) (T := T6) (N := 40) (n := 40) hw hin6 (hts _ (List.mem_append_right _ (wc_4 (List.mem_of_getElem? (i := 29) rfl))))
      exact ⟨(a, b), fun q hq => by cases hq; exact h⟩
    | 7 =>
      obtain ⟨a, b, h⟩ := u_known (C := R7) (T := T7) (N := 3) (n := 3) hw hin7 (hts _ (List.mem_append_right _ (wc_1 (List.mem_of_getElem? (i := 104) rfl))))
      exact ⟨(a, b), fun q hq => by cases hq; exact h⟩
    | n + 8 => exact ⟨((0 : Nat), fun _ => 0), fun q hq => by cases hq⟩
  obtain ⟨f, hf⟩ := Classical.axiomOfChoice h
  exact ⟨(fun c => (f c).1, fun c => (f c).2), hf⟩
theorem st_A {args : Array Value} {s : State} (hts : ∀ w ∈ lw_tbl, w.before args s = true) : ∃ T : List (ClassId × FieldType), (∀ (i : Nat) (ty : FieldType), hv_tys[i]? = some ty → T[i]? = some ((T[i]?.getD (0, .int)).1, ty)) ∧ ∀ (k : Nat) (q : ClassId × FieldType), T[k]? = some q → ArrOfT s q.1 q.2 ∧ va_RA s q.1 q.2 := by
  obtain ⟨c0, h0⟩ := st_prim (ty := .int) (hts _ (List.mem_append_right _ (wc_1 (List.mem_of_getElem? (i := 83) rfl)))) (fun _ h => h)
  obtain ⟨c1, h1⟩ := st_prim (ty := .boolean) (hts _ (List.mem_append_right _ (wc_4 (List.mem_of_getElem? (i := 232) rfl)))) (fun _ h => h)
  obtain ⟨c2, h2⟩ := st_prim (ty := .long) (hts _ (List.mem_append_right _ (wc_5 (List.mem_of_getElem? (i := 162) rfl)))) (fun _ h => h)
  obtain ⟨c3, h3⟩ := st_obj (C := "BulletinOffice$KeyChain") (hts _ (List.mem_append_right _ (wc_1 (List.mem_of_getElem? (i := 85) rfl))))
  obtain ⟨c4, h4⟩ := st_obj (C := "BulletinOffice$Receiver") (hts _ (List.mem_append_right _ (wc_1 (List.mem_of_getElem? (i := 130) rfl))))
  obtain ⟨c5, h5⟩ := st_obj (C := "java/lang/Object") (hts _ (List.mem_append_right _ (wc_3 (List.mem_of_getElem? (i := 46) rfl))))
  refine ⟨[(c0, .int), (c1, .boolean), (c2, .long), (c3, .object "BulletinOffice$KeyChain"), (c4, .object "BulletinOffice$Receiver"), (c5, .object "java/lang/Object")], fun i ty h => ?_, fun k q h => ?_⟩
  · match i with
    | 0 => cases h; rfl
    | 1 => cases h; rfl
    | 2 => cases h; rfl
    | 3 => cases h; rfl
    | 4 => cases h; rfl
    | 5 => cases h; rfl
    | n + 6 => cases h
  · match k with
    | 0 => cases h; exact h0
    | 1 => cases h; exact h1
    | 2 => cases h; exact h2
    | 3 => cases h; exact h3
    | 4 => cases h; exact h4
    | 5 => cases h; exact h5
    | n + 6 => cases h
theorem st_nwM : ∀ q ∈ hv_nwM, Cond.methodLinkNest q.1 q.2.1 q.2.2.1 q.2.2.2 ∈ lw_tbl :=
  List.forall_mem_cons.mpr ⟨(List.mem_append_right _ (wc_1 (List.mem_of_getElem? (i := 59) rfl))), List.forall_mem_cons.mpr ⟨(List.mem_append_right _ (wc_1 (List.mem_of_getElem? (i := 87) rfl))), List.forall_mem_cons.mpr ⟨(List.mem_append_right _ (wc_1 (List.mem_of_getElem? (i := 139) rfl))), List.forall_mem_cons.mpr ⟨(List.mem_append_right _ (wc_2 (List.mem_of_getElem? (i := 198) rfl))), List.forall_mem_cons.mpr ⟨(List.mem_append_right _ (wc_2 (List.mem_of_getElem? (i := 223) rfl))), List.forall_mem_cons.mpr ⟨(List.mem_append_right _ (wc_2 (List.mem_of_getElem? (i := 236) rfl))), List.forall_mem_cons.mpr ⟨(List.mem_append_right _ (wc_3 (List.mem_of_getElem? (i := 164) rfl))), List.forall_mem_cons.mpr ⟨(List.mem_append_right _ (wc_3 (List.mem_of_getElem? (i := 165) rfl))), List.forall_mem_cons.mpr ⟨(List.mem_append_right _ (wc_3 (List.mem_of_getElem? (i := 179) rfl))), fun _ h => absurd h List.not_mem_nil⟩⟩⟩⟩⟩⟩⟩⟩⟩
theorem st_cast : ∀ q ∈ hv_cast, Cond.castable q.1 q.2 ∈ lw_tbl :=
  List.forall_mem_cons.mpr ⟨(List.mem_append_right _ (wc_1 (List.mem_of_getElem? (i := 218) rfl))), List.forall_mem_cons.mpr ⟨(List.mem_append_right _ (wc_2 (List.mem_of_getElem? (i := 102) rfl))), List.forall_mem_cons.mpr ⟨(List.mem_append_right _ (wc_2 (List.mem_of_getElem? (i := 125) rfl))), List.forall_mem_cons.mpr ⟨(List.mem_append_right _ (wc_2 (List.mem_of_getElem? (i := 164) rfl))), List.forall_mem_cons.mpr ⟨(List.mem_append_right _ (wc_3 (List.mem_of_getElem? (i := 144) rfl))), List.forall_mem_cons.mpr ⟨(List.mem_append_right _ (wc_5 (List.mem_of_getElem? (i := 164) rfl))), List.forall_mem_cons.mpr ⟨(List.mem_append_right _ (wc_5 (List.mem_of_getElem? (i := 168) rfl))), List.forall_mem_cons.mpr ⟨(List.mem_append_right _ (wc_5 (List.mem_of_getElem? (i := 169) rfl))), List.forall_mem_cons.mpr ⟨(List.mem_append_right _ (wc_5 (List.mem_of_getElem? (i := 170) rfl))), List.forall_mem_cons.mpr ⟨(List.mem_append_right _ (wc_5 (List.mem_of_getElem? (i := 171) rfl))), List.forall_mem_cons.mpr ⟨(List.mem_append_right _ (wc_5 (List.mem_of_getElem? (i := 172) rfl))), List.forall_mem_cons.mpr ⟨(List.mem_append_right _ (wc_5 (List.mem_of_getElem? (i := 173) rfl))), List.forall_mem_cons.mpr ⟨(List.mem_append_right _ (wc_5 (List.mem_of_getElem? (i := 174) rfl))), fun _ h => absurd h List.not_mem_nil⟩⟩⟩⟩⟩⟩⟩⟩⟩⟩⟩⟩⟩
theorem st_decl : ∀ q ∈ hv_decl, Cond.declares q ∈ lw_tbl :=
  List.forall_mem_cons.mpr ⟨(List.mem_append_right _ (wc_1 (List.mem_of_getElem? (i := 219) rfl))), List.forall_mem_cons.mpr ⟨(List.mem_append_right _ (wc_1 (List.mem_of_getElem? (i := 220) rfl))), List.forall_mem_cons.mpr ⟨(List.mem_append_right _ (wc_1 (List.mem_of_getElem? (i := 221) rfl))), List.forall_mem_cons.mpr ⟨(List.mem_append_right _ (wc_1 (List.mem_of_getElem? (i := 222) rfl))), List.forall_mem_cons.mpr ⟨(List.mem_append_right _ (wc_1 (List.mem_of_getElem? (i := 223) rfl))), List.forall_mem_cons.mpr ⟨(List.mem_append_right _ (wc_1 (List.mem_of_getElem? (i := 224) rfl))), List.forall_mem_cons.mpr ⟨(List.mem_append_right _ (wc_5 (List.mem_of_getElem? (i := 167) rfl))), fun _ h => absurd h List.not_mem_nil⟩⟩⟩⟩⟩⟩⟩
theorem st_ao : ∀ q ∈ hv_ao, Cond.arrayOver (.object q) ∈ lw_tbl :=
  List.forall_mem_cons.mpr ⟨(List.mem_append_right _ (wc_1 (List.mem_of_getElem? (i := 85) rfl))), List.forall_mem_cons.mpr ⟨(List.mem_append_right _ (wc_1 (List.mem_of_getElem? (i := 130) rfl))), List.forall_mem_cons.mpr ⟨(List.mem_append_right _ (wc_3 (List.mem_of_getElem? (i := 46) rfl))), fun _ h => absurd h List.not_mem_nil⟩⟩⟩
theorem st_ncast : ∀ q ∈ hv_ncast, Cond.not (.castable q.1 q.2) ∈ flatC (Cond.and given_1 narrow_1) := by decide +kernel
theorem st_e0 : ∀ j, j < 8 → Cond.eq (.elem (.static "BulletinOffice$Sealer" "START" "[I") (.int (Int32.ofNat j))) (.int (tb0.getD j 0)) ∈ flatC (Cond.and given_1 narrow_1) := by decide +kernel
theorem st_e1 : ∀ j, j < 64 → Cond.eq (.elem (.static "BulletinOffice$Sealer" "CONSTANTS" "[I") (.int (Int32.ofNat j))) (.int (tb1.getD j 0)) ∈ flatC (Cond.and given_1 narrow_1) := by decide +kernel
theorem st_e2 : ∀ j, j < 5 → Cond.eq (.elem (.static "BulletinOffice$KeyChain" "CHAIN_TEXT" "[I") (.int (Int32.ofNat j))) (.int (tb2.getD j 0)) ∈ flatC (Cond.and given_1 narrow_1) := by decide +kernel
theorem st_e3 : ∀ j, j < 3 → Cond.eq (.elem (.static "BulletinOffice$KeyChain" "MAC_TEXT" "[I") (.int (Int32.ofNat j))) (.int (tb3.getD j 0)) ∈ flatC (Cond.and given_1 narrow_1) := by decide +kernel
theorem st_G {s : State} {b L : Nat} {xs : Nat → Int32} (hL : L ≤ 3075) (hts : ∀ w ∈ lw_tbl, w.before #[Value.ref b] s = true) (hX : va_X b L xs s s.heap) (hbl : b < s.heap.size) (hgv : (Jvm.Cond.and given_1 narrow_1).before #[Value.ref b] s = true) : ∃ G : ho_G, gB G = s.heap.size ∧ gs_ok G s s.heap ∧ pu_ok G b := by
  have hs := flat_of_before _ hgv
  have hA : ∀ a : Nat, a < s.heap.size → ¬ (s.heap.size ≤ a) := fun a h1 h2 => Nat.lt_irrefl _ (Nat.lt_of_lt_of_le h1 h2)
  obtain ⟨D, hD⟩ := st_K hts
  obtain ⟨T, hT1, hT2⟩ := st_A hts
  obtain ⟨t0, e0, v0⟩ := st_one (vs := tb0) (tm := .static "BulletinOffice$Sealer" "START" "[I") (A := fun q => s.heap.size ≤ q) (by decide) (hs _ (by decide +kernel)) (hs _ (by decide +kernel)) (fun j hj => hs _ (st_e0 j hj)) hA
  obtain ⟨t1, e1, v1⟩ := st_one (vs := tb1) (tm := .static "BulletinOffice$Sealer" "CONSTANTS" "[I") (A := fun q => s.heap.size ≤ q) (by decide) (hs _ (by decide +kernel)) (hs _ (by decide +kernel)) (fun j hj => hs _ (st_e1 j hj)) hA
  obtain ⟨t2, e2, v2⟩ := st_one (vs := tb2) (tm := .static "BulletinOffice$KeyChain" "CHAIN_TEXT" "[I") (A := fun q => s.heap.size ≤ q) (by decide) (hs _ (by decide +kernel)) (hs _ (by decide +kernel)) (fun j hj => hs _ (st_e2 j hj)) hA
  obtain ⟨t3, e3, v3⟩ := st_one (vs := tb3) (tm := .static "BulletinOffice$KeyChain" "MAC_TEXT" "[I") (A := fun q => s.heap.size ≤ q) (by decide) (hs _ (by decide +kernel)) (hs _ (by decide +kernel)) (fun j hj => hs _ (st_e3 j hj)) hA
  obtain ⟨t4, e4, v4⟩ := va_Tof (tm := .static "java/util/ArrayList" "DEFAULTCAPACITY_EMPTY_ELEMENTDATA" "[Ljava/lang/Object;") (ty := .object "java/lang/Object") (N := 0) (f := fun _ => .null) (A := fun q => s.heap.size ≤ q) (args := #[Value.ref b]) (s := s) (by decide) (hs _ (by decide +kernel)) (va_eqt (hs _ (by decide +kernel))) (fun j hj => absurd hj (Nat.not_lt_zero _)) hA
  obtain ⟨t5, v5⟩ := va_Mi.of (hs (Cond.isRef (.mirror "[Ljava/lang/Object;")) (by decide +kernel))
  obtain ⟨R, hR⟩ := st_R (fun q => s.heap.size ≤ q) s s.heap
  have hRt : ∀ (t n : Nat) (f : Nat → Int32), n ≤ 3075 → va_T .int t n (fun j => .int (f j)) (fun q => s.heap.size ≤ q) s s.heap → ∃ g : Nat → Int32, R t = some (n, g) ∧ ∀ j, j < n → g j = f j := by
    intro t n f hn hv
    cases hr : R t with
    | none => exact absurd hv ((hR t).2 hr n f hn)
    | some q =>
      obtain ⟨m, g⟩ := q
      obtain ⟨h1, h2⟩ := (hR t).1 m g hr
      obtain ⟨rfl, h3⟩ := st_uniq h2 hv h1 hn
      exact ⟨g, rfl, h3⟩
  have hlt : ∀ {ty : FieldType} {t n : Nat} {f : Nat → Value}, va_T ty t n f (fun q => s.heap.size ≤ q) s s.heap → t < s.heap.size := fun h => by
    obtain ⟨cell, h1, -⟩ := h
    exact (Array.getElem?_eq_some_iff.mp h1).1
  have hXT : va_T .int b L (fun j => .int (xs j)) (fun q => s.heap.size ≤ q) s s.heap := by
    obtain ⟨scr, h1, h2, h3, h4, h5⟩ := hX
    exact ⟨scr, h1, h2, h3, Nat.le_of_eq h4.symm, by rw [h4], h5, hA b hbl⟩
  refine ⟨(s.heap.size, s.heap.size + 601024, 7293000, D, T, R, fun i => match i with | 0 => t0 | 1 => t1 | 2 => t2 | 3 => t3 | 4 => t4 | _ => t5), rfl, ⟨Nat.le_refl _, ⟨hD, hT2⟩, hT1, fun t n f h => ((hR t).1 n f h).2, fun i q h => ?_, fun q h => (by cases h), fun q h => va_Nw.of rfl (hts _ (st_nwM q h)), v4, fun q h => va_Nw.of rfl (hts _ (st_cast q h)), fun q h => va_Nw.of rfl (hts _ (st_decl q h)), fun q h => va_Nc.of (hs _ (st_ncast q h)), ?_, ?_, v5, fun q h => va_AO.of (hts _ (st_ao q h))⟩, rfl, rfl, fun i vs h => ?_, hlt v4, hbl, ?_⟩
  · match i with
    | 0 => cases h; exact va_Zof (hts _ (List.mem_append_right _ (wc_2 (List.mem_of_getElem? (i := 75) rfl)))) (hts _ (List.mem_append_right _ (wc_1 (List.mem_of_getElem? (i := 4) rfl)))) e0 hA
    | 1 => cases h; exact va_Zof (hts _ (List.mem_append_right _ (wc_2 (List.mem_of_getElem? (i := 88) rfl)))) (hts _ (List.mem_append_right _ (wc_1 (List.mem_of_getElem? (i := 4) rfl)))) e1 hA
    | 2 => cases h; exact va_Zof (hts _ (List.mem_append_right _ (wc_2 (List.mem_of_getElem? (i := 49) rfl)))) (hts _ (List.mem_append_right _ (wc_1 (List.mem_of_getElem? (i := 5) rfl)))) e2 hA
    | 3 => cases h; exact va_Zof (hts _ (List.mem_append_right _ (wc_2 (List.mem_of_getElem? (i := 209) rfl)))) (hts _ (List.mem_append_right _ (wc_1 (List.mem_of_getElem? (i := 5) rfl)))) e3 hA
    | 4 => cases h; exact va_Zof (hts _ (List.mem_append_right _ (wc_1 (List.mem_of_getElem? (i := 116) rfl)))) (hts _ (List.mem_append_right _ (wc_1 (List.mem_of_getElem? (i := 8) rfl)))) e4 hA
    | n + 5 => cases h
  · exact vx_Zqof (hts _ (List.mem_append_right _ (wc_2 (List.mem_of_getElem? (i := 3) rfl)))) (hts _ (List.mem_append_right _ (wc_1 (List.mem_of_getElem? (i := 11) rfl)))) (hs _ (by decide +kernel)) hA
  · exact vx_Zqof (hts _ (List.mem_append_right _ (wc_2 (List.mem_of_getElem? (i := 5) rfl)))) (hts _ (List.mem_append_right _ (wc_1 (List.mem_of_getElem? (i := 11) rfl)))) (hs _ (by decide +kernel)) hA
  · match i with
    | 0 => cases h; exact ⟨hlt v0, hRt t0 _ _ (by decide) v0⟩
    | 1 => cases h; exact ⟨hlt v1, hRt t1 _ _ (by decide) v1⟩
    | 2 => cases h; exact ⟨hlt v2, hRt t2 _ _ (by decide) v2⟩
    | 3 => cases h; exact ⟨hlt v3, hRt t3 _ _ (by decide) v3⟩
    | n + 4 => cases h
  · obtain ⟨g, h1, -⟩ := hRt b L xs hL hXT
    exact ⟨L, g, hL, h1⟩
theorem start_W {p : Program} {e : Env} {s : State} {m : MethodId} {below : List Frame} {meth : Method} {c : Code} (l : Launch) (hlt : l.stackTraces = false) (hnm : meth.name = "law") {b L : Nat} {xs : Nat → Int32} (hL : L ≤ 3075) (C0 : lw_At p s m meth c b L xs) (hP : pu_goal) : W p l e room_1 s m #[Value.ref b] below meth c s.heap [] 0 0 (lw_Z below #[Value.ref b] s) (entryFrame m ([Value.ref b] : List Value).toArray 7) := by
  obtain ⟨hx, hb, hr, hml, hown, hts, hX, hbl, hlk, hgv⟩ := C0
  obtain ⟨G, g1, g2, g3⟩ := st_G hL hts hX hbl hgv
  obtain ⟨N, σ', hf⟩ := hP G b g3
  rw [lg_entry_eq]
  have hl := lv_entry [Value.ref b] (n := 7) (Nat.le_of_ble_eq_true rfl)
  have w := w_law (k := ((p, l, e, room_1, s, m, #[Value.ref b], below, meth, c), G, (gB G, 0, fun _ => none), lw_Z below #[Value.ref b] s, 7)) ⟨hx, hb, hml, hown, fun w h => hts w (List.mem_filter.mp h).1, g2, g1.symm, (show (601024 : Nat) = gC G - gB G by rw [g3.1]; omega), (show (7293000 : Nat) = gS G - 0 by rw [g3.2.1]), (show (12 : Nat) ≤ 14 by decide), (show (312 : Nat) ≤ 550 by decide), hr, hlk, rfl, hnm⟩ hlt N _ b (σ', 1) hf ⟨rfl, b, rfl, rfl, rfl, g1⟩ s.heap [] _ ⟨g1.symm, (show gB G ≤ gC G by rw [g3.1]; omega), Nat.zero_le _, fun a e h => by cases h⟩ va_S.rf (Nat.le_refl _) (Nat.le_refl _) (lo_has.pad (n := 6) (lo_has.of hl (fun v hv => by rw [List.mem_singleton.mp hv]; rfl)))
  simp only [Nat.sub_self] at w
  exact w
