/-! a statement as a Bool -/
noncomputable def xP (P : Prop) : Bool := @decide P (Classical.propDecidable P)
theorem xP_iff {P : Prop} : xP P = true ↔ P := by
  unfold xP
  exact @decide_eq_true_iff P (Classical.propDecidable P)
theorem xP_f {P : Prop} : xP P = false ↔ ¬ P := by
  constructor
  · intro h hp
    rw [xP_iff.mpr hp] at h
    cases h
  · intro h
    cases e : xP P with
    | false => rfl
    | true => exact absurd (xP_iff.mp e) h
theorem xP_eq {P Q : Prop} (h : P ↔ Q) : xP P = xP Q := by rw [propext h]
/-! walking all rows of terms: in depth (class), by number (reference) -/
def xr_tup (W : Nat) : Nat → List (List Nat)
  | 0 => [[]]
  | d + 1 => (xr_tup W d).flatMap (fun p => (List.range W).map (fun t => p ++ [t]))
def xr_F (live : List Nat → Bool) (W d : Nat) : List (List Nat) := (xr_tup W d).filter live
def xr_up (live : List Nat → Bool) (f : List Nat → List (List Nat)) (p : List Nat) (T : Nat) : List (List Nat) := (List.range T).flatMap (fun t => if live (p ++ [t]) = true then f (p ++ [t]) else [])
def xr_lv (live : List Nat → Bool) (W : Nat) : Nat → List Nat → List (List Nat)
  | 0, p => [p]
  | r + 1, p => xr_up live (xr_lv live W r) p W
def xr_sm (f : Nat → Nat) : Nat → Nat
  | 0 => 0
  | n + 1 => xr_sm f n + f n
def xr_us (live : List Nat → Bool) (f : List Nat → Nat) (p : List Nat) (T : Nat) : Nat := xr_sm (fun t => if live (p ++ [t]) = true then 1 + f (p ++ [t]) else 0) T
def xr_ct (live : List Nat → Bool) (W : Nat) : Nat → List Nat → Nat
  | 0, _ => 0
  | r + 1, p => xr_us live (xr_ct live W r) p W
theorem xr_up_succ {live : List Nat → Bool} {f : List Nat → List (List Nat)} {p : List Nat} {T : Nat} : xr_up live f p (T + 1) = xr_up live f p T ++ (if live (p ++ [T]) = true then f (p ++ [T]) else []) := by
  unfold xr_up
  rw [List.range_succ, List.flatMap_append]
  simp
theorem xr_us_succ {live : List Nat → Bool} {f : List Nat → Nat} {p : List Nat} {T : Nat} : xr_us live f p (T + 1) = xr_us live f p T + (if live (p ++ [T]) = true then 1 + f (p ++ [T]) else 0) := rfl
theorem xr_skip {α β : Type} {q : α → Bool} {g : α → List β} : ∀ {l : List α}, (∀ p, p ∈ l → q p = false → g p = []) → l.flatMap g = (l.filter q).flatMap g
  | [], _ => rfl
  | a :: l, h => by
    rw [List.flatMap_cons, xr_skip (l := l) (fun p hp => h p (List.mem_cons_of_mem _ hp)), List.filter_cons]
    by_cases hq : q a = true
    · rw [if_pos hq, List.flatMap_cons]
    · rw [if_neg hq, h a List.mem_cons_self (by cases z : q a; rfl; exact absurd z hq)]
      rfl
theorem xr_F_succ {live : List Nat → Bool} (hl : ∀ p t, live (p ++ [t]) = true → live p = true) (W d : Nat) : xr_F live W (d + 1) = (xr_F live W d).flatMap (fun p => ((List.range W).map (fun t => p ++ [t])).filter live) := by
  show ((xr_tup W d).flatMap _).filter live = _
  rw [List.filter_flatMap]
  refine xr_skip (fun p _ hp => ?_)
  apply List.filter_eq_nil_iff.mpr
  intro x hx
  obtain ⟨t, -, rfl⟩ := List.mem_map.mp hx
  intro z
  rw [hl p t z] at hp
  cases hp
theorem xr_flat {live : List Nat → Bool} {f : List Nat → List (List Nat)} (p : List Nat) (T : Nat) : xr_up live f p T = (((List.range T).map (fun t => p ++ [t])).filter live).flatMap f := by
  unfold xr_up
  induction List.range T with
  | nil => rfl
  | cons t l ih =>
    rw [List.flatMap_cons, ih, List.map_cons, List.filter_cons]
    by_cases h : live (p ++ [t]) = true
    · rw [if_pos h, if_pos h, List.flatMap_cons]
    · rw [if_neg h, if_neg h]
      rfl
theorem xr_leaves {live : List Nat → Bool} (hl : ∀ p t, live (p ++ [t]) = true → live p = true) (W : Nat) : ∀ (r d : Nat), (xr_F live W d).flatMap (xr_lv live W r) = xr_F live W (d + r)
  | 0, d => by
    show (xr_F live W d).flatMap (fun p => [p]) = xr_F live W d
    rw [List.flatMap_singleton']
  | r + 1, d => by
    show (xr_F live W d).flatMap (fun p => xr_up live (xr_lv live W r) p W) = _
    rw [show d + (r + 1) = (d + 1) + r by omega, ← xr_leaves hl W r (d + 1), xr_F_succ hl, List.flatMap_assoc]
    congr 1
    funext p
    exact xr_flat p W
def xr_tot (f : List Nat → Nat) : List (List Nat) → Nat
  | [] => 0
  | p :: l => f p + xr_tot f l
theorem xr_tot_app {f : List Nat → Nat} : ∀ {a b : List (List Nat)}, xr_tot f (a ++ b) = xr_tot f a + xr_tot f b
  | [], b => by show xr_tot f b = 0 + xr_tot f b; omega
  | p :: a, b => by
    show f p + xr_tot f (a ++ b) = f p + xr_tot f a + xr_tot f b
    rw [xr_tot_app]; omega
theorem xr_us_tot {live : List Nat → Bool} {f : List Nat → Nat} (p : List Nat) : ∀ (T : Nat), xr_us live f p T = xr_tot (fun x => 1 + f x) (((List.range T).map (fun t => p ++ [t])).filter live)
  | 0 => rfl
  | T + 1 => by
    rw [xr_us_succ, xr_us_tot p T, List.range_succ, List.map_append, List.filter_append, xr_tot_app]
    congr 1
    by_cases h : live (p ++ [T]) = true
    · rw [if_pos h]
      simp [h, xr_tot]
    · rw [if_neg h]
      simp [h, xr_tot]
theorem xr_tot_flat {f : List Nat → Nat} {g : List Nat → List (List Nat)} : ∀ {l : List (List Nat)}, xr_tot f (l.flatMap g) = xr_tot (fun p => xr_tot f (g p)) l
  | [] => rfl
  | p :: l => by
    rw [List.flatMap_cons, xr_tot_app, xr_tot_flat (l := l)]
    rfl
theorem xr_tot_one {f : List Nat → Nat} : ∀ {l : List (List Nat)}, xr_tot (fun x => 1 + f x) l = l.length + xr_tot f l
  | [] => rfl
  | p :: l => by
    show 1 + f p + xr_tot _ l = l.length + 1 + (f p + xr_tot f l)
    rw [xr_tot_one]; omega
theorem xr_count {live : List Nat → Bool} (hl : ∀ p t, live (p ++ [t]) = true → live p = true) (W : Nat) : ∀ (r d : Nat), xr_tot (xr_ct live W r) (xr_F live W d) = xr_sm (fun j => (xr_F live W (d + 1 + j)).length) r
  | 0, d => by
    show xr_tot (fun _ => 0) (xr_F live W d) = 0
    induction xr_F live W d with
    | nil => rfl
    | cons p l ih => show 0 + xr_tot _ l = 0; rw [ih]
  | r + 1, d => by
    show xr_tot (fun p => xr_us live (xr_ct live W r) p W) (xr_F live W d) = _
    have e : (fun p => xr_us live (xr_ct live W r) p W) = (fun p => xr_tot (fun x => 1 + xr_ct live W r x) (((List.range W).map (fun t => p ++ [t])).filter live)) := by
      funext p
      exact xr_us_tot p W
    rw [e, ← xr_tot_flat, ← xr_F_succ hl, xr_tot_one, xr_count hl W r (d + 1)]
    have s : ∀ (f : Nat → Nat) (n : Nat), xr_sm f (n + 1) = f 0 + xr_sm (fun j => f (j + 1)) n := by
      intro f n
      induction n with
      | zero => show 0 + f 0 = f 0 + 0; omega
      | succ n ih => show xr_sm f (n + 1) + f (n + 1) = _; rw [ih]; show _ = f 0 + (xr_sm (fun j => f (j + 1)) n + f (n + 1)); omega
    rw [s]
    congr 1
    congr 1
    funext j
    rw [show d + 1 + 1 + j = d + 1 + (j + 1) by omega]
/-! by number -/
def xr_dg (W : Nat) : Nat → Nat → List Nat
  | 0, _ => []
  | d + 1, b => xr_dg W d (b / W) ++ [b % W]
theorem xr_dg_len (W : Nat) : ∀ (d b : Nat), (xr_dg W d b).length = d
  | 0, _ => rfl
  | d + 1, b => by
    show (xr_dg W d (b / W) ++ [b % W]).length = d + 1
    rw [List.length_append, xr_dg_len W d]
    rfl
theorem xr_grid {α : Type} (W : Nat) (f : Nat → α) : ∀ n, (List.range (n * W)).map f = (List.range n).flatMap (fun b => (List.range W).map (fun t => f (b * W + t)))
  | 0 => by simp
  | n + 1 => by
    rw [Nat.succ_mul, List.range_add, List.map_append, xr_grid W f n, List.range_succ, List.flatMap_append]
    simp [List.map_map, Function.comp_def]
theorem xr_tup_dg (W : Nat) : ∀ d, (List.range (W ^ d)).map (xr_dg W d) = xr_tup W d
  | 0 => rfl
  | d + 1 => by
    rw [Nat.pow_succ, xr_grid]
    show _ = (xr_tup W d).flatMap _
    rw [← xr_tup_dg W d, List.flatMap_map]
    congr 1
    funext b
    apply List.map_congr_left
    intro t ht
    have h := List.mem_range.mp ht
    show xr_dg W d ((b * W + t) / W) ++ [(b * W + t) % W] = xr_dg W d b ++ [t]
    rw [Nat.mul_comm b W, Nat.mul_add_div (by omega), Nat.mul_add_mod, Nat.div_eq_of_lt h, Nat.mod_eq_of_lt h, Nat.add_zero]
def xr_K (live : List Nat → Bool) (W d b : Nat) : List (List Nat) := ((List.range b).map (xr_dg W d)).filter live
theorem xr_K_succ (live : List Nat → Bool) (W d b : Nat) : xr_K live W d (b + 1) = xr_K live W d b ++ (if live (xr_dg W d b) = true then [xr_dg W d b] else []) := by
  unfold xr_K
  rw [List.range_succ, List.map_append, List.filter_append]
  congr 1
  by_cases h : live (xr_dg W d b) = true
  · rw [if_pos h]; simp [h]
  · rw [if_neg h]; simp [h]
theorem xr_K_all (live : List Nat → Bool) (W d : Nat) : xr_K live W d (W ^ d) = xr_F live W d := by
  unfold xr_K xr_F
  rw [xr_tup_dg]
