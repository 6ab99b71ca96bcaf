/-! THE MATHEMATICS OF THE RENTS. 1: determinants by their first rows, on lists -/
def Lf (u : Nat → Int) : List Nat → (List Nat → Int) → Int
  | [], _ => 0
  | j :: J, f => u j * f J - Lf u J (fun J' => f (j :: J'))
def Dt (A : Nat → Nat → Int) : List Nat → List Nat → Int
  | [], _ => 1
  | i :: I, J => Lf (A i) J (Dt A I)
theorem Lf_lin (a b : Int) (u v : Nat → Int) : ∀ (J : List Nat) (f : List Nat → Int), Lf (fun c => a * u c + b * v c) J f = a * Lf u J f + b * Lf v J f := by
  intro J
  induction J with
  | nil => intro f; simp [Lf]
  | cons j J ih =>
    intro f
    simp only [Lf]
    rw [ih]
    grind
theorem Lf_linf (u : Nat → Int) (a : Int) : ∀ (J : List Nat) (f g : List Nat → Int), Lf u J (fun J' => a * f J' - g J') = a * Lf u J f - Lf u J g := by
  intro J
  induction J with
  | nil => intro f g; simp [Lf]
  | cons j J ih =>
    intro f g
    simp only [Lf]
    rw [ih (fun J' => f (j :: J')) (fun J' => g (j :: J'))]
    grind
theorem Lf_zf (u : Nat → Int) : ∀ (J : List Nat), Lf u J (fun _ => 0) = 0 := by
  intro J
  induction J with
  | nil => rfl
  | cons j J ih => simp only [Lf]; rw [ih]; simp
theorem Lf_anti (u v : Nat → Int) : ∀ (J : List Nat) (f : List Nat → Int), Lf u J (fun J' => Lf v J' f) = -Lf v J (fun J' => Lf u J' f) := by
  intro J
  induction J with
  | nil => intro f; simp [Lf]
  | cons j J ih =>
    intro f
    have e1 : Lf u (j :: J) (fun J' => Lf v J' f) = u j * Lf v J f - (v j * Lf u J f - Lf u J (fun J' => Lf v J' (fun K => f (j :: K)))) := by
      rw [← Lf_linf u (v j) J f (fun J' => Lf v J' (fun K => f (j :: K)))]
      rfl
    have e2 : Lf v (j :: J) (fun J' => Lf u J' f) = v j * Lf u J f - (u j * Lf v J f - Lf v J (fun J' => Lf u J' (fun K => f (j :: K)))) := by
      rw [← Lf_linf v (u j) J f (fun J' => Lf u J' (fun K => f (j :: K)))]
      rfl
    rw [e1, e2, ih (fun K => f (j :: K))]
    grind
theorem Dt_alt (A : Nat → Nat → Int) (i : Nat) : ∀ (I : List Nat) (J : List Nat), i ∈ I → Dt A (i :: I) J = 0 := by
  intro I
  induction I with
  | nil => intro J h; cases h
  | cons i' I ih =>
    intro J h
    have e : Dt A (i :: i' :: I) J = -Lf (A i') J (fun J' => Lf (A i) J' (Dt A I)) := Lf_anti (A i) (A i') J (Dt A I)
    rcases List.mem_cons.mp h with rfl | h
    · have e2 : Dt A (i :: i :: I) J = Lf (A i) J (fun J' => Lf (A i) J' (Dt A I)) := rfl
      rw [e2] at e ⊢
      omega
    · rw [e]
      have e3 : (fun J' => Lf (A i) J' (Dt A I)) = fun _ => (0 : Int) := by
        funext J'
        exact ih J' h
      rw [e3, Lf_zf]
      rfl
theorem Lf_zero {u : Nat → Int} : ∀ (J : List Nat) (f : List Nat → Int), (∀ j ∈ J, u j = 0) → Lf u J f = 0 := by
  intro J
  induction J with
  | nil => intro f _; rfl
  | cons j J ih =>
    intro f h
    simp only [Lf]
    rw [h j List.mem_cons_self, ih _ (fun k hk => h k (List.mem_cons_of_mem _ hk))]
    simp
theorem Lf_one {u : Nat → Int} (i : Nat) : ∀ (J : List Nat) (f : List Nat → Int), (∀ j ∈ J, j ≠ i → u j = 0) → ∃ q, Lf u J f = u i * q := by
  intro J
  induction J with
  | nil => intro f _; exact ⟨0, by simp [Lf]⟩
  | cons j J ih =>
    intro f h
    obtain ⟨q, hq⟩ := ih (fun J' => f (j :: J')) (fun k hk => h k (List.mem_cons_of_mem _ hk))
    simp only [Lf]
    rw [hq]
    by_cases hj : j = i
    · subst hj
      exact ⟨f J - q, by grind⟩
    · rw [h j List.mem_cons_self hj]
      exact ⟨-q, by grind⟩
/-- a linear functional on rows -/
def Lin (φ : (Nat → Int) → Int) : Prop := ∀ (a b : Int) (u v : Nat → Int), φ (fun c => a * u c + b * v c) = a * φ u + b * φ v
theorem Lin_Lf (J : List Nat) (f : List Nat → Int) : Lin (fun u => Lf u J f) := fun a b u v => Lf_lin a b u v J f
/-- the state of the rows M, when the pivots of the list K are through: A the first rows, d what is below; op: the rows -/
def BI (A M : Nat → Nat → Int) (K : List Nat) (d : Int) (op : Nat → Prop) : Prop :=
  0 < d ∧ Dt A K K = d ∧ (∀ k ∈ K, op k) ∧ (∀ i ∈ K, M i i = d ∧ ∀ t ∈ K, t ≠ i → M i t = 0) ∧ (∀ i, op i → i ∉ K → ∀ t ∈ K, M i t = 0) ∧
  (∀ φ, Lin φ → (∀ t ∈ K, φ (A t) = 0) → (∀ i ∈ K, φ (M i) = 0) ∧ ∀ i, op i → i ∉ K → φ (M i) = d * φ (A i))
theorem BI_0 (A : Nat → Nat → Int) (op : Nat → Prop) : BI A A [] 1 op := by
  refine ⟨by decide, rfl, fun k h => (by cases h), fun i h => (by cases h), fun i _ _ t h => (by cases h), fun φ _ _ => ⟨fun i h => (by cases h), fun i _ _ => (by rw [Int.one_mul])⟩⟩
/-- the next pivot: every division is exact -/
theorem BI_step {A M M' : Nat → Nat → Int} {K : List Nat} {d : Int} {op : Nat → Prop} {k : Nat} (h : BI A M K d op) (hk : op k) (hkK : k ∉ K) (hp : 0 < M k k) (hMk : M' k = M k) (hM : ∀ i, op i → i ≠ k → ∀ c, M' i c = (M k k * M i c - M i k * M k c).tdiv d) :
    (∀ i, op i → i ≠ k → ∀ c, d * M' i c = M k k * M i c - M i k * M k c) ∧ BI A M' (k :: K) (M k k) op := by
  obtain ⟨hd, hDt, hop, h1, h2, h3⟩ := h
  have hMkK : ∀ t ∈ K, M k t = 0 := h2 k hk hkK
  -- the determinant of the pivots
  have hDk : Dt A (k :: K) (k :: K) = M k k := by
    have hφ := h3 (fun u => Lf u (k :: K) (Dt A K)) (Lin_Lf _ _) (fun t ht => Dt_alt A t K (k :: K) ht)
    have e1 := hφ.2 k hk hkK
    have e2 : Lf (M k) (k :: K) (Dt A K) = M k k * Dt A K K := by
      simp only [Lf]
      rw [Lf_zero K _ hMkK]
      simp
    have e3 : d * (M k k) = d * Lf (A k) (k :: K) (Dt A K) := by
      rw [← e1]
      show d * M k k = Lf (M k) (k :: K) (Dt A K)
      rw [e2, hDt, Int.mul_comm]
    exact (Int.eq_of_mul_eq_mul_left (by omega) e3).symm
  -- what the numerators are to a functional
  have hN : ∀ i c, (fun c => M k k * M i c + (-(M i k)) * M k c) c = M k k * M i c - M i k * M k c := fun i c => by grind
  have hzero : ∀ i, op i → i ≠ k → ∀ t ∈ k :: K, t ≠ i → M k k * M i t - M i k * M k t = 0 := by
    intro i hi hik t ht hti
    rcases List.mem_cons.mp ht with rfl | ht
    · grind
    · rw [hMkK t ht]
      have : M i t = 0 := by
        by_cases hiK : i ∈ K
        · exact (h1 i hiK).2 t ht hti
        · exact h2 i hi hiK t ht
      rw [this]
      simp
  have hfun : ∀ φ, Lin φ → (∀ t ∈ k :: K, φ (A t) = 0) → ∀ i, op i → i ≠ k → φ (fun c => M k k * M i c - M i k * M k c) = if i ∈ K then 0 else M k k * (d * φ (A i)) := by
    intro φ hφ hA i hi hik
    have e : (fun c => M k k * M i c - M i k * M k c) = fun c => M k k * M i c + (-(M i k)) * M k c := funext fun c => (hN i c).symm
    have hA' : ∀ t ∈ K, φ (A t) = 0 := fun t ht => hA t (List.mem_cons_of_mem _ ht)
    have hk0 : φ (M k) = 0 := by rw [(h3 φ hφ hA').2 k hk hkK, hA k List.mem_cons_self]; simp
    rw [e, hφ, hk0]
    by_cases hiK : i ∈ K
    · rw [if_pos hiK, (h3 φ hφ hA').1 i hiK]; simp
    · rw [if_neg hiK, (h3 φ hφ hA').2 i hi hiK]; simp
  have hex : ∀ i, op i → i ≠ k → ∀ c, d ∣ M k k * M i c - M i k * M k c := by
    intro i hi hik c
    by_cases hc : c ∈ k :: K
    · by_cases hci : c = i
      · subst hci
        have hcK : c ∈ K := by
          rcases List.mem_cons.mp hc with h | h
          · exact absurd h hik
          · exact h
        rw [(h1 c hcK).1, hMkK c hcK]
        exact ⟨M k k, by grind⟩
      · rw [hzero i hi hik c hc hci]
        exact Int.dvd_zero d
    · have e1 := hfun (fun u => Lf u (c :: k :: K) (Dt A (k :: K))) (Lin_Lf _ _) (fun t ht => Dt_alt A t (k :: K) (c :: k :: K) ht) i hi hik
      have e2 : Lf (fun c => M k k * M i c - M i k * M k c) (c :: k :: K) (Dt A (k :: K)) = (M k k * M i c - M i k * M k c) * M k k - Lf (fun c => M k k * M i c - M i k * M k c) (k :: K) (fun J' => Dt A (k :: K) (c :: J')) := by
        simp only [Lf]
        rw [← hDk]
      by_cases hiK : i ∈ K
      · obtain ⟨q, hq⟩ := Lf_one (u := fun c => M k k * M i c - M i k * M k c) i (k :: K) (fun J' => Dt A (k :: K) (c :: J')) (hzero i hi hik)
        rw [if_pos hiK] at e1
        have e3 : (M k k * M i c - M i k * M k c) * M k k = (M k k * M i i - M i k * M k i) * q := by
          have := e2.symm.trans e1
          rw [hq] at this
          omega
        rw [(h1 i hiK).1, hMkK i hiK] at e3
        have e4 : M k k * (M k k * M i c - M i k * M k c) = M k k * (d * q) := by
          rw [Int.mul_comm, e3]; grind
        rw [Int.eq_of_mul_eq_mul_left (by omega) e4]
        exact Int.dvd_mul_right d q
      · rw [if_neg hiK] at e1
        have hz : Lf (fun c => M k k * M i c - M i k * M k c) (k :: K) (fun J' => Dt A (k :: K) (c :: J')) = 0 := Lf_zero _ _ (fun t ht => hzero i hi hik t ht (fun z => by
          rcases List.mem_cons.mp ht with h | h
          · exact hik (z ▸ h)
          · exact hiK (z ▸ h)))
        rw [hz] at e2
        have e3 := e2.symm.trans e1
        have e4 : M k k * (M k k * M i c - M i k * M k c) = M k k * (d * Lf (A i) (c :: k :: K) (Dt A (k :: K))) := by
          rw [Int.mul_comm]; omega
        rw [Int.eq_of_mul_eq_mul_left (by omega) e4]
        exact Int.dvd_mul_right d _
  have hexact : ∀ i, op i → i ≠ k → ∀ c, d * M' i c = M k k * M i c - M i k * M k c := by
    intro i hi hik c
    rw [hM i hi hik c]
    exact Int.mul_tdiv_cancel' (hex i hi hik c)
  refine ⟨hexact, hp, hDk, ?_, ?_, ?_, ?_⟩
  · intro t ht
    rcases List.mem_cons.mp ht with rfl | ht
    · exact hk
    · exact hop t ht
  · intro i hi
    rcases List.mem_cons.mp hi with rfl | hiK
    · rw [hMk]
      refine ⟨rfl, fun t ht hti => ?_⟩
      rcases List.mem_cons.mp ht with h | h
      · exact absurd h hti
      · exact hMkK t h
    · have hik : i ≠ k := fun z => hkK (z ▸ hiK)
      have hi' := hop i hiK
      refine ⟨?_, fun t ht hti => ?_⟩
      · have e := hexact i hi' hik i
        rw [(h1 i hiK).1, hMkK i hiK] at e
        have e2 : d * M' i i = d * M k k := by rw [e]; grind
        exact Int.eq_of_mul_eq_mul_left (by omega) e2
      · have e := hexact i hi' hik t
        rw [hzero i hi' hik t ht hti] at e
        exact (Int.mul_eq_zero.mp e).resolve_left (by omega)
  · intro i hi hiK t ht
    have hik : i ≠ k := fun z => hiK (z ▸ List.mem_cons_self)
    have e := hexact i hi hik t
    rw [hzero i hi hik t ht (fun z => hiK (z ▸ ht))] at e
    exact (Int.mul_eq_zero.mp e).resolve_left (by omega)
  · intro φ hφ hA
    have hA' : ∀ t ∈ K, φ (A t) = 0 := fun t ht => hA t (List.mem_cons_of_mem _ ht)
    have hrow : ∀ i, op i → i ≠ k → d * φ (M' i) = if i ∈ K then 0 else M k k * (d * φ (A i)) := by
      intro i hi hik
      rw [← hfun φ hφ hA i hi hik]
      have e : (fun c => M k k * M i c - M i k * M k c) = fun c => d * M' i c + 0 * M' i c := funext fun c => by rw [← hexact i hi hik c]; simp
      rw [e, hφ]
      simp
    constructor
    · intro i hi
      rcases List.mem_cons.mp hi with rfl | hiK
      · rw [hMk, (h3 φ hφ hA').2 i hk hkK, hA i List.mem_cons_self]; simp
      · have hik : i ≠ k := fun z => hkK (z ▸ hiK)
        have e := hrow i (hop i hiK) hik
        rw [if_pos hiK] at e
        exact (Int.mul_eq_zero.mp e).resolve_left (by omega)
    · intro i hi hiK
      have hik : i ≠ k := fun z => hiK (z ▸ List.mem_cons_self)
      have hiK' : i ∉ K := fun z => hiK (List.mem_cons_of_mem _ z)
      have e := hrow i hi hik
      rw [if_neg hiK'] at e
      have e2 : d * φ (M' i) = d * (M k k * φ (A i)) := by rw [e]; grind
      exact Int.eq_of_mul_eq_mul_left (by omega) e2
