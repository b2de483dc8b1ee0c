/-! the relation between the desk and the reference -/
section REL
def RelC (S : sT) (M : Nat → Nat → Int) (c : Nat) : Prop :=
  S.1 (4 + c) 0 = (c : Int) ∧ S.1 (4 + c) 1 = M 75 c ∧ (0 ≤ M 75 c ∧ M 75 c ≤ 3) ∧
  (M 75 c = 2 → S.1 (4 + c) 2 = M 77 c ∧ S.1 (4 + c) 3 = M 76 c ∧ S.1 (4 + c) 5 = M 78 c ∧ (M 77 c = 0 ∨ M 77 c = 1) ∧ (1 ≤ M 76 c ∧ M 76 c ≤ 12) ∧ S.2.1 (M 77 c).toNat (M 76 c).toNat = some (4 + c)) ∧
  (M 75 c = 3 → S.1 (4 + c) 2 = M 77 c ∧ S.1 (4 + c) 4 = M 76 c ∧ (M 77 c = 0 ∨ M 77 c = 1) ∧ 0 ≤ M 76 c ∧ M 76 c ≤ 5700) ∧
  (M 75 c ≤ 1 → S.1 (4 + c) 2 = -1) ∧ (M 75 c ≠ 2 → S.1 (4 + c) 3 = -1 ∧ S.1 (4 + c) 5 = -1) ∧
  S.1 (4 + c) 6 = M 79 c ∧
  (0 ≤ M 79 c → M 79 c < 40 ∧ M 75 c = 2 ∧ M 76 c = 12 ∧ S.1 (4 + c) 7 = M 80 c ∧ S.1 (4 + c) 8 = M 81 c ∧ ((M 80 c = -1 ∧ M 81 c = -1) ∨ (0 ≤ M 80 c ∧ M 80 c ≤ 20000 ∧ 0 ≤ M 81 c ∧ M 81 c ≤ 20000))) ∧
  (M 79 c < 0 → M 79 c = -1 ∧ S.1 (4 + c) 7 = -1 ∧ S.1 (4 + c) 8 = -1) ∧ S.1 (4 + c) 9 = M 82 c ∧ S.1 (4 + c) 10 = M 83 c
def RelZ (S : sT) (M : Nat → Nat → Int) : Prop := ∀ s z n, s < 2 → S.2.1 s z = some n → ∃ c, c < 60 ∧ n = 4 + c ∧ M 75 c = 2 ∧ M 77 c = (s : Int) ∧ M 76 c = (z : Int)
def RelS (S : sT) (M : Nat → Nat → Int) : Prop := S.1 65 1 = M 74 10 ∧ (0 ≤ M 74 10 ∧ M 74 10 ≤ 20) ∧ (∀ k : Nat, (k : Int) < M 74 10 → ∃ c : Nat, c < 60 ∧ M 84 k = (c : Int) ∧ S.2.2 k = some (4 + c) ∧ M 75 c = 1) ∧
  (∀ j k : Nat, (j : Int) < M 74 10 → (k : Int) < M 74 10 → M 84 j = M 84 k → j = k) ∧ ∀ c, c < 60 → M 75 c = 1 → ∃ k : Nat, (k : Int) < M 74 10 ∧ M 84 k = (c : Int)
def RelD (S : sT) (M : Nat → Nat → Int) : Prop := S.1 1 4 = M 74 14 ∧ (0 ≤ M 74 14 ∧ M 74 14 ≤ 15) ∧ S.1 1 5 = M 74 15 ∧ (1 ≤ M 74 15 ∧ M 74 15 ≤ 60) ∧ S.1 1 6 = M 74 16 ∧ (0 ≤ M 74 16 ∧ M 74 16 ≤ 5) ∧ S.1 1 7 = M 74 17 ∧ (0 ≤ M 74 17 ∧ M 74 17 ≤ 5) ∧ S.1 1 8 = M 74 18 ∧ S.1 1 9 = M 74 19
def RelW (t : Nat) (S : sT) (M : Nat → Nat → Int) : Prop := ∃ rp : Nat, M 74 12 = (rp : Int) ∧ rp ≤ t ∧ S.1 67 2 = ((min rp 5 : Nat) : Int) ∧ (rp < 5 → S.1 67 3 = 0) ∧ (5 ≤ rp → S.1 67 3 = ((rp % 5 : Nat) : Int)) ∧ (∀ j, j < min rp 5 → S.1 68 j = M 85 j) ∧ S.1 67 4 = xMid M
def RelU (M : Nat → Nat → Int) : Prop := ∀ c d, c < 60 → d < 60 → M 75 c = 3 → M 75 d = 3 → M 77 c = M 77 d → M 76 c = M 76 d → c = d
def RelK (M : Nat → Nat → Int) : Prop := ∀ c d, c < 60 → d < 60 → 0 ≤ M 79 c → M 75 d = 3 → M 77 d = M 77 c → 1 ≤ M 76 d
def Rel (t : Nat) (S : sT) (M : Nat → Nat → Int) : Prop := Wf S ∧ (∀ c, c < 60 → RelC S M c) ∧ RelZ S M ∧ RelS S M ∧ RelD S M ∧ RelW t S M ∧ RelU M ∧ RelK M
/-- another cabin -/
theorem RelC.frame {S T : sT} {M N : Nat → Nat → Int} {c : Nat} (h : RelC S M c) (h1 : ∀ k, T.1 (4 + c) k = S.1 (4 + c) k) (h2 : ∀ a, 75 ≤ a → a ≤ 83 → N a c = M a c) (h3 : M 75 c = 2 → T.2.1 (M 77 c).toNat (M 76 c).toNat = S.2.1 (M 77 c).toNat (M 76 c).toNat) : RelC T N c := by
  unfold RelC
  rw [h1 0, h1 1, h1 2, h1 3, h1 4, h1 5, h1 6, h1 7, h1 8, h1 9, h1 10, h2 75 (by omega) (by omega), h2 76 (by omega) (by omega), h2 77 (by omega) (by omega), h2 78 (by omega) (by omega), h2 79 (by omega) (by omega), h2 80 (by omega) (by omega), h2 81 (by omega) (by omega), h2 82 (by omega) (by omega), h2 83 (by omega) (by omega)]
  obtain ⟨a1, a2, a3, a4, a5, a6, a7, a8, a9, a10, a11, a12⟩ := h
  exact ⟨a1, a2, a3, fun q => by rw [h3 q]; exact a4 q, a5, a6, a7, a8, a9, a10, a11, a12⟩
theorem RelW.frame {t : Nat} {S T : sT} {M N : Nat → Nat → Int} (h : RelW t S M) (h1 : ∀ k, T.1 67 k = S.1 67 k) (h2 : ∀ k, T.1 68 k = S.1 68 k) (h3 : N 74 12 = M 74 12) (h4 : ∀ j, N 85 j = M 85 j) : RelW t T N := by
  obtain ⟨rp, a1, a2, a3, a4, a5, a6, a7⟩ := h
  have hm : xMid N = xMid M := by
    have e : ∀ n k, xMidTo N n k = xMidTo M n k := by
      intro n k
      induction k with
      | zero => rfl
      | succ k ih =>
        unfold xMidTo xLess xNot
        rw [ih, h4 k, cntTo_congr n (p := fun j => decide (N 85 j < M 85 k)) (q := fun j => decide (M 85 j < M 85 k)) (fun j _ => by rw [h4 j]), cntTo_congr n (p := fun j => decide (N 85 j ≤ M 85 k)) (q := fun j => decide (M 85 j ≤ M 85 k)) (fun j _ => by rw [h4 j])]
    unfold xMid xKept
    rw [h3, e]
  exact ⟨rp, by rw [h3]; exact a1, a2, by rw [h1]; exact a3, fun q => by rw [h1]; exact a4 q, fun q => by rw [h1]; exact a5 q, fun j hj => by rw [h2, h4]; exact a6 j hj, by rw [h1, hm]; exact a7⟩
theorem RelS.frame {S T : sT} {M N : Nat → Nat → Int} (h : RelS S M) (h1 : T.1 65 1 = S.1 65 1) (h2 : N 74 10 = M 74 10) (h3 : ∀ k, N 84 k = M 84 k) (h4 : ∀ k, T.2.2 k = S.2.2 k) (h5 : ∀ c, c < 60 → (N 75 c = 1 ↔ M 75 c = 1)) : RelS T N := by
  obtain ⟨a1, a2, a3, a4, a5⟩ := h
  unfold RelS
  rw [h1, h2]
  refine ⟨a1, a2, fun k hk => ?_, fun j k hj hk e => ?_, fun c hc hp => ?_⟩
  · obtain ⟨c, b1, b2, b3, b4⟩ := a3 k hk
    exact ⟨c, b1, by rw [h3]; exact b2, by rw [h4]; exact b3, (h5 c b1).mpr b4⟩
  · rw [h3, h3] at e
    exact a4 j k hj hk e
  · obtain ⟨k, b1, b2⟩ := a5 c hc ((h5 c hc).mp hp)
    exact ⟨k, b1, by rw [h3]; exact b2⟩
theorem RelD.frame {S T : sT} {M N : Nat → Nat → Int} (h : RelD S M) (h1 : ∀ k, T.1 1 k = S.1 1 k) (h2 : ∀ k, 14 ≤ k → N 74 k = M 74 k) : RelD T N := by
  unfold RelD
  rw [h1 4, h1 5, h1 6, h1 7, h1 8, h1 9, h2 14 (by omega), h2 15 (by omega), h2 16 (by omega), h2 17 (by omega), h2 18 (by omega), h2 19 (by omega)]
  exact h
/-- the search of the reference -/
theorem xIn_none {S : sT} {M : Nat → Nat → Int} (hC : ∀ c, c < 60 → RelC S M c) {s z : Nat} (h : S.2.1 s z = none) : xIn M (s : Int) (z : Int) = -1 := by
  unfold xIn
  refine fstFrom_none 60 0 (fun j _ h2 => decide_eq_false (fun q => ?_))
  obtain ⟨-, -, -, a4, -⟩ := hC j (by omega)
  have a5 := (a4 q.1).2.2.2.2.2
  rw [q.2.1, q.2.2, Int.toNat_natCast, Int.toNat_natCast, h] at a5
  cases a5
theorem xIn_some {S : sT} {M : Nat → Nat → Int} (hC : ∀ c, c < 60 → RelC S M c) (hZ : RelZ S M) {s z c : Nat} (hs : s < 2) (h : S.2.1 s z = some (4 + c)) : xIn M (s : Int) (z : Int) = (c : Int) ∧ c < 60 ∧ M 75 c = 2 ∧ M 77 c = (s : Int) ∧ M 76 c = (z : Int) := by
  obtain ⟨d, b1, b2, b3, b4, b5⟩ := hZ s z _ hs h
  obtain rfl : c = d := by omega
  refine ⟨?_, b1, b3, b4, b5⟩
  unfold xIn
  -- below 60 alone
  have key : ∀ m k, k ≤ c → c < k + m → k + m ≤ 60 → fstFrom (fun c => decide (M 75 c = 2 ∧ M 77 c = (s : Int) ∧ M 76 c = (z : Int))) m k = (c : Int) := by
    intro m
    induction m with
    | zero => intro k h1 h2 h3; omega
    | succ m ih =>
      intro k h1 h2 h3
      unfold fstFrom
      by_cases e : k = c
      · subst e; rw [if_pos (decide_eq_true ⟨b3, b4, b5⟩)]
      · rw [if_neg ?_]
        · exact ih (k + 1) (by omega) (by omega) (by omega)
        · intro q
          have q := of_decide_eq_true q
          obtain ⟨-, -, -, a4, -⟩ := hC k (by omega)
          have a5 := (a4 q.1).2.2.2.2.2
          rw [q.2.1, q.2.2, Int.toNat_natCast, Int.toNat_natCast, h] at a5
          have := Option.some.inj a5
          omega
  exact key 60 0 (by omega) (by omega) (by omega)
theorem Z_cab {S : sT} {M : Nat → Nat → Int} (hZ : RelZ S M) {s z n : Nat} (hs : s < 2) (h : S.2.1 s z = some n) : ∃ c, c < 60 ∧ n = 4 + c ∧ M 75 c = 2 ∧ M 77 c = (s : Int) ∧ M 76 c = (z : Int) := hZ s z n hs h
end REL
