/-- two worlds have no cell in common -/
def sep (w1 w2 : va_W) : Prop := ∀ (k j : Nat) (q r : Nat × va_E), w1[k]? = some q → w2[j]? = some r → q.1 ≠ r.1
theorem sep.sy {w1 w2 : va_W} (h : sep w1 w2) : sep w2 w1 := fun k j q r hk hj e => h j k r q hj hk e.symm
section Q2
variable {p : Program} {l : Launch} {e : Env} {R : Room} {s : State} {m : MethodId} {args : Array Value} {below : List Frame} {meth : Method} {c : Code} {H : Heap} {locs : List Loc} {cells slots : Nat} {Q : State → Prop}
variable {pc : Nat} {ls : Array Slot} {rest st0 : List Value} {D : va_G} {A : Nat → Prop} {tys : List (ClassId × FieldType)} {w1 w2 : va_W}
theorem q2_not {q : Nat × va_E} {k : Nat} (hP2 : va_P D vcl w2 H) (hsep : sep w1 w2) (h : w2[k]? = some q) : ¬ va_A w1 H.size q.1 := by
  intro z
  rcases z with ⟨k2, e2, z⟩ | z
  · exact hsep k2 k _ q z h rfl
  · exact absurd (hP2 k q h).lt (Nat.not_lt.mpr z)
theorem q2_sep {w3 : va_W} (hP2 : va_P D vcl w2 H) (hsep : sep w1 w2) (hD : va_D (va_A w1 H.size) w3) : sep w3 w2 := by
  intro k j q r hk hj ee
  exact q2_not hP2 hsep hj (ee ▸ hD.2 k q hk)
theorem q2_ci {post : Int32 → wU → Prop} {a : Array Value} {mc ms k n : Nat} (hP : va_P D vcl w1 H) (hD : va_D A w1) (hP2 : va_P D vcl w2 H) (hsep : sep w1 w2) (hS : va_S A s.heap H locs) (hA : ∀ q : Nat, s.heap.size ≤ q → A q)
    (run : va_Run p l e R s m args below meth c H locs cells slots mc ms (F0 m pc ls st0) rest (va_Qi post (wB D (va_A w1 H.size)) (va_A w1 H.size) a) (va_A w1 H.size))
    (hk : cells + mc ≤ k) (hs : slots + ms ≤ n)
    (kk : ∀ (r : Int32) (u : wU) (H1 : Heap) (locs1 : List Loc), post r u → va_K D vcl u.2 s → va_P D vcl u.1 H1 → va_D A u.1 → va_P D vcl w2 H1 → sep u.1 w2 → va_S A s.heap H1 locs1 → W p l e R s m args below meth c H1 locs1 k n Q (F0 m (pc + 3) ls (.int r :: rest))) :
    W p l e R s m args below meth c H locs cells slots Q (F0 m pc ls st0) := by
  have hFc := q_all hD hS hA
  refine va_calli run hS (fun q _ h => hFc q h) hFc (fun r u t H1 locs1 ht hvm hw hB hz1 hk1 hS1 => ?_)
  obtain ⟨hP1, hK1, hD1⟩ := hB
  rw [ht] at hP1
  exact W.widen hk hs (kk r u H1 locs1 hw (va_K.moved hvm.symm hK1) hP1 (hD1.weaken (fun _ _ _ h => hFc _ h)) (hP2.kept (fun k q h => hk1 q.1 (hP2 k q h).lt (q2_not hP2 hsep h))) (q2_sep hP2 hsep hD1) hS1)
theorem q2_cl {post : Int64 → wU → Prop} {a : Array Value} {mc ms k n : Nat} (hP : va_P D vcl w1 H) (hD : va_D A w1) (hP2 : va_P D vcl w2 H) (hsep : sep w1 w2) (hS : va_S A s.heap H locs) (hA : ∀ q : Nat, s.heap.size ≤ q → A q)
    (run : va_Run p l e R s m args below meth c H locs cells slots mc ms (F0 m pc ls st0) rest (va_Ql post (wB D (va_A w1 H.size)) (va_A w1 H.size) a) (va_A w1 H.size))
    (hk : cells + mc ≤ k) (hs : slots + ms ≤ n)
    (kk : ∀ (r : Int64) (u : wU) (H1 : Heap) (locs1 : List Loc), post r u → va_K D vcl u.2 s → va_P D vcl u.1 H1 → va_D A u.1 → va_P D vcl w2 H1 → sep u.1 w2 → va_S A s.heap H1 locs1 → W p l e R s m args below meth c H1 locs1 k n Q (F0 m (pc + 3) ls (.long r :: rest))) :
    W p l e R s m args below meth c H locs cells slots Q (F0 m pc ls st0) := by
  have hFc := q_all hD hS hA
  refine va_calll run hS (fun q _ h => hFc q h) hFc (fun r u t H1 locs1 ht hvm hw hB hz1 hk1 hS1 => ?_)
  obtain ⟨hP1, hK1, hD1⟩ := hB
  rw [ht] at hP1
  exact W.widen hk hs (kk r u H1 locs1 hw (va_K.moved hvm.symm hK1) hP1 (hD1.weaken (fun _ _ _ h => hFc _ h)) (hP2.kept (fun k q h => hk1 q.1 (hP2 k q h).lt (q2_not hP2 hsep h))) (q2_sep hP2 hsep hD1) hS1)
theorem q2_cv {post : wU → Prop} {a : Array Value} {mc ms k n : Nat} (hP : va_P D vcl w1 H) (hD : va_D A w1) (hP2 : va_P D vcl w2 H) (hsep : sep w1 w2) (hS : va_S A s.heap H locs) (hA : ∀ q : Nat, s.heap.size ≤ q → A q)
    (run : va_Run p l e R s m args below meth c H locs cells slots mc ms (F0 m pc ls st0) rest (va_Qv post (wB D (va_A w1 H.size)) (va_A w1 H.size) a) (va_A w1 H.size))
    (hk : cells + mc ≤ k) (hs : slots + ms ≤ n)
    (kk : ∀ (u : wU) (H1 : Heap) (locs1 : List Loc), post u → va_K D vcl u.2 s → va_P D vcl u.1 H1 → va_D A u.1 → va_P D vcl w2 H1 → sep u.1 w2 → va_S A s.heap H1 locs1 → W p l e R s m args below meth c H1 locs1 k n Q (F0 m (pc + 3) ls rest)) :
    W p l e R s m args below meth c H locs cells slots Q (F0 m pc ls st0) := by
  have hFc := q_all hD hS hA
  refine va_callv run hS (fun q _ h => hFc q h) hFc (fun u t H1 locs1 ht hvm hw hB hz1 hk1 hS1 => ?_)
  obtain ⟨hP1, hK1, hD1⟩ := hB
  rw [ht] at hP1
  exact W.widen hk hs (kk u H1 locs1 hw (va_K.moved hvm.symm hK1) hP1 (hD1.weaken (fun _ _ _ h => hFc _ h)) (hP2.kept (fun k q h => hk1 q.1 (hP2 k q h).lt (q2_not hP2 hsep h))) (q2_sep hP2 hsep hD1) hS1)
end Q2
