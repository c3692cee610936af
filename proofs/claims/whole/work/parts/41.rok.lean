theorem replay_ok {N : Mem} {τ l n : Nat} {d : Nat → Int32} {pl : Nat → Nat} (hτ : τ ≤ 4) (hl : l < 4) (hn : n ≤ 16) (hp : ∀ k, k < n → pl k < 24) (h0 : N 0 0 = tv τ) (h3 : N 0 3 = nI l) (h5 : N 0 5 = nI n) (h1 : ∀ p, p < 4 → N 1 p = d p) (h2 : ∀ k, k < n → N 2 k = nI (pl k)) :
    ∃ N', fX6_replay N = some N' ∧ RS N N' τ d l pl n := by
  unfold fX6_replay
  have key : RS N (mset (mset (mset (mset (mset (mset (mset (mset N 3 0 (N 1 0)) 3 1 (N 1 1)) 3 2 (N 1 2)) 3 3 (N 1 3)) 5 0 0) 5 1 0) 0 10 (N 0 3)) 0 9 0) τ d l pl 0 := by
    refine ⟨fun p hp4 => ?_, fun i hi => by omega, ?_, ?_, fun s hs => ?_, fun i i0 i3 i4 i5 => ?_, fun j j9 j10 => ?_⟩
    · simp only [mset_at]
      obtain rfl | rfl | rfl | rfl : p = 0 ∨ p = 1 ∨ p = 2 ∨ p = 3 := by omega
      · simp [h1 0 (by omega), run]
      · simp [h1 1 (by omega), run]
      · simp [h1 2 (by omega), run]
      · simp [h1 3 (by omega), run]
    · simp only [mset_at]; simp; rfl
    · simp only [mset_at]; simp [h3, run]
    · simp only [mset_at]
      obtain rfl | rfl : s = 0 ∨ s = 1 := by omega
      · simp [won, cn]; rfl
      · simp [won, cn]; rfl
    · funext j; simp only [mset_at]; simp [i0, i3, i5]
    · simp only [mset_at]; simp [j9, j10]
  obtain ⟨N', e, r⟩ := replay_loop (N0 := N) (τ := τ) (l := l) (d := d) (pl := pl) hτ hl hn hp h0 h5 h2 40 n 0 _ (by omega) (by omega) key
  refine ⟨N', ?_, r⟩
  rw [show (nI 0 : Int32) = 0 from rfl] at e
  rw [e]; rfl
