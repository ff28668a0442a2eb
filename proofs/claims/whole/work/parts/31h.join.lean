/-! JOIN: both side by side -/
def jx2 (o : Option Tq) (v k : Option Nat) : Option Nat := match o with
  | some _ => v
  | none => k
def jQ (N : Nat) (sg : Nat → Int32) (pt : Nat → Nat → Option Nat) (f : Nat → Tq) (nx : Nat → Nat) (D : Nat → Nat → Nat) (i s : Nat) : Option Nat :=
  if i < N then pt i s else jx2 (jtk sg pt (f i) s) (if s < nx i then some (D i s) else none) (jkp sg pt (f i) s)
def jT (sg : Nat → Int32) (pt : Nat → Nat → Option Nat) (f : Nat → Tq) (nx : Nat → Nat) : List Nat → List (Tq × Option Nat)
  | [] => []
  | n :: K => tks sg pt (f n) n (8 - nx n) ++ jT sg pt f nx K
def mu (nx : Nat → Nat) : List Nat → Nat
  | [] => 0
  | n :: K => (9 - nx n) + mu nx K
section JN8
variable {N A : Nat} {sg : Nat → Int32} {pt : Nat → Nat → Option Nat} {nm : Nat → Option Nat} {f f2 : Nat → Tq} {nx nx2 : Nat → Nat} {D D2 : Nat → Nat → Nat} {K : List Nat} {n s : Nat} {t : Tq}
theorem jT_cg (h : ∀ m, m ∈ K → f2 m = f m ∧ nx2 m = nx m) : jT sg pt f2 nx2 K = jT sg pt f nx K := by
  induction K with
  | nil => rfl
  | cons n K ih =>
    rw [jT, jT, (h n List.mem_cons_self).1, (h n List.mem_cons_self).2, ih (fun m hm => h m (List.mem_cons_of_mem _ hm))]
theorem mu_cg (h : ∀ m, m ∈ K → nx2 m = nx m) : mu nx2 K = mu nx K := by
  induction K with
  | nil => rfl
  | cons n K ih =>
    rw [mu, mu, h n List.mem_cons_self, ih (fun m hm => h m (List.mem_cons_of_mem _ hm))]
theorem jT_len : (jT sg pt f nx K).length ≤ 8 * K.length := by
  induction K with
  | nil => exact Nat.le_refl 0
  | cons n K ih =>
    rw [jT, List.length_append, List.length_cons]
    have := tks_len (sg := sg) (pt := pt) (q := f n) (n := n) (8 - nx n)
    omega
theorem jPl_uniq {i j : Nat} (h1 : jPl sg pt t i) (h2 : jPl sg pt t j) : i = j := by
  rcases h1 with ⟨a, b, c⟩ | ⟨a, b, c⟩ | ⟨a, b, c⟩ <;> rcases h2 with ⟨a2, b2, c2⟩ | ⟨a2, b2, c2⟩ | ⟨a2, b2, c2⟩
  · rw [c, c2]
  · exact absurd b b2
  · exact absurd a a2
  · exact absurd b2 b
  · rw [c, c2]
  · exact absurd a a2
  · exact absurd a2 a
  · exact absurd a2 a
  · rw [c, c2]
theorem jPl_icp {i : Nat} (h1 : jPl sg pt t i) (h2 : Icp N sg pt t) : False := by
  rcases h1 with ⟨a, b, c⟩ | ⟨a, b, c⟩ | ⟨a, b, c⟩
  · exact h2.2.2.2.1 a
  · exact h2.2.2.2.1 a
  · exact h2.2.2.2.2 b
theorem jPl_lt {i : Nat} (h1 : jPl sg pt t i) (a : t.1 < N) (b : t.2.1 < N) : i < N := by
  rcases h1 with ⟨-, -, z⟩ | ⟨-, -, z⟩ | ⟨-, -, z⟩
  · rw [z]; exact a
  · rw [z]; split; exact b; exact a
  · rw [z]; split; exact a; exact b
theorem JI_pop (h : JI N sg pt A f nx D (n :: K)) (h8 : nx n = 8) : JI N sg pt A f nx D K := by
  obtain ⟨i1, i2, i3, i4, i5, i6, i7, i8, i9⟩ := h
  rw [List.length_cons] at i7
  refine ⟨i1, i2, i3, i4, fun m hm => i5 m (List.mem_cons_of_mem _ hm), (List.pairwise_cons.mp i6).2, by omega, fun m h1 h2 hm => ?_, i9⟩
  by_cases e : m = n
  · rw [e]; exact h8
  · exact i8 m h1 h2 (fun z => (List.mem_cons.mp z).elim e hm)
theorem JI_set (h : JI N sg pt A f nx D K) (hn : n ∈ K) (hs : nx n = s) (hs8 : s < 8) (hD : ∀ a b, ¬ (a = n ∧ b = s) → D2 a b = D a b) (hv : ∀ t, jtk sg pt (f n) s = some t → D2 n s < A) : JI N sg pt A f (upf nx n (s + 1)) D2 K := by
  obtain ⟨i1, i2, i3, i4, i5, i6, i7, i8, i9⟩ := h
  refine ⟨i1, i2, fun m h1 h2 => ⟨(i3 m h1 h2).1, ?_⟩, i4, i5, i6, i7, fun m h1 h2 hm => ?_, fun m b t h1 h2 hb ht => ?_⟩
  · by_cases e : m = n
    · subst e; rw [upf_e]; omega
    · rw [upf_ne e]; exact (i3 m h1 h2).2
  · have e : m ≠ n := fun z => hm (by rw [z]; exact hn)
    rw [upf_ne e]; exact i8 m h1 h2 hm
  · by_cases e : m = n
    · subst e
      rw [upf_e] at hb
      by_cases e2 : b = s
      · subst e2; exact hv t ht
      · rw [hD m b (fun z => e2 z.2)]; exact i9 m b t h1 h2 (by omega) ht
    · rw [upf_ne e] at hb
      rw [hD m b (fun z => e z.1)]
      exact i9 m b t h1 h2 hb ht
theorem JI_push (h : JI N sg pt A f nx D K) (hA : A < 60) (hi : Icp N sg pt t) (hm : ∀ m, N ≤ m → m < A → f m ≠ t) : JI N sg pt (A + 1) (upg f A t) (upf nx A 0) D (A :: K) := by
  obtain ⟨i1, i2, i3, i4, i5, i6, i7, i8, i9⟩ := h
  refine ⟨by omega, by omega, fun m h1 h2 => ?_, fun m k h1 h2 h3 h4 he => ?_, fun m hm => ?_, List.pairwise_cons.mpr ⟨fun m hm => (i5 m hm).2, i6⟩, by rw [List.length_cons]; omega, fun m h1 h2 hm => ?_, fun m b q h1 h2 hb hq => ?_⟩
  · by_cases e : m = A
    · subst e; rw [upg_e, upf_e]; exact ⟨hi, by omega⟩
    · rw [upg_ne e, upf_ne e]; exact i3 m h1 (by omega)
  · by_cases e1 : m = A
    · by_cases e2 : k = A
      · omega
      · rw [e1, upg_e, upg_ne e2] at he
        exact absurd he.symm (hm k h3 (by omega))
    · by_cases e2 : k = A
      · rw [e2, upg_e, upg_ne e1] at he
        exact absurd he (hm m h1 (by omega))
      · rw [upg_ne e1, upg_ne e2] at he
        exact i4 m k h1 (by omega) h3 (by omega) he
  · rcases List.mem_cons.mp hm with e | e
    · omega
    · have := i5 m e; omega
  · have e : m ≠ A := fun e => hm (by rw [e]; exact List.mem_cons_self)
    rw [upf_ne e]
    exact i8 m h1 (by omega) (fun z => hm (List.mem_cons_of_mem _ z))
  · by_cases e : m = A
    · subst e; rw [upf_e] at hb; omega
    · rw [upf_ne e] at hb
      rw [upg_ne e] at hq
      have := i9 m b q h1 (by omega) hb hq
      omega
theorem jQ_old {i b : Nat} (h : i < N) : jQ N sg pt f nx D i b = pt i b := by unfold jQ; rw [if_pos h]
theorem jQ_up (hn : N ≤ n) (hs : nx n = s) (hs8 : s < 8) {v : Nat} (ht : jtk sg pt (f n) s = some t) (i b : Nat) (hb : b < 8) : jQ N sg pt f (upf nx n (s + 1)) (upd2 D n s v) i b = updP (jQ N sg pt f nx D) (some (8 * n + s)) v i b := by
  unfold updP
  by_cases h : some (8 * n + s) = some (8 * i + b) ∧ b < 8
  · have h1 := Option.some.inj h.1
    have e1 : i = n := by omega
    have e2 : b = s := by omega
    subst e1 e2
    rw [if_pos h]
    unfold jQ
    rw [if_neg (by omega), ht, upf_e, upd2_e, if_pos (by omega)]
    rfl
  · rw [if_neg h]
    unfold jQ
    by_cases c : i < N
    · rw [if_pos c, if_pos c]
    · rw [if_neg c, if_neg c]
      by_cases e : i = n
      · subst e
        have e2 : ¬ b = s := fun e2 => h ⟨by rw [e2], hb⟩
        rw [upf_e, upd2_ne (fun z => e2 z.2), hs]
        congr 1
        by_cases c3 : b < s
        · rw [if_pos c3, if_pos (by omega)]
        · rw [if_neg c3, if_neg (by omega)]
      · rw [upf_ne e, upd2_ne (fun z => e z.1)]
theorem jQ_skip (hn : N ≤ n) (hs : nx n = s) (ht : jtk sg pt (f n) s = none) (i b : Nat) : jQ N sg pt f (upf nx n (s + 1)) D i b = jQ N sg pt f nx D i b := by
  unfold jQ
  by_cases c : i < N
  · rw [if_pos c, if_pos c]
  · rw [if_neg c, if_neg c]
    by_cases e : i = n
    · subst e
      by_cases e2 : b = s
      · subst e2; rw [ht]; rfl
      · rw [upf_e, hs]
        congr 1
        by_cases c3 : b < s
        · rw [if_pos c3, if_pos (by omega)]
        · rw [if_neg c3, if_neg (by omega)]
    · rw [upf_ne e]
theorem jQ_new (hA : N ≤ A) (i b : Nat) : jQ N sg pt (upg f A t) (upf nx A 0) D i b = addP sg pt (jQ N sg pt f nx D) t A i b := by
  unfold jQ addP
  by_cases e : i = A
  · subst e
    rw [if_neg (by omega), if_pos rfl, upg_e, upf_e, if_neg (by omega)]
    cases jtk sg pt t b <;> rfl
  · rw [if_neg e, upg_ne e, upf_ne e]
end JN8
