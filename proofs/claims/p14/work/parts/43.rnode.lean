/-- node N of the reference stands for this code; cr: the core that is told of a node with a NAME, ar: which ARGUMENT it is -/
def nd (I : pmI) (J : pmJ) (cr : Nat → Int64 → Prop) (ar : Int64 → Option Nat) (lo hi : Nat) : Nat → Nat → List dD → Prop
  | 0, _, _ => False
  | f + 1, N, L => (lo ≤ N ∧ N < hi) ∧ ∃ p : Nat, I 67 N = nI p ∧ (
    (∃ v, I 63 N = nI 0 ∧ J 70 N = v ∧ L = [(2, p, 0, v)]) ∨
    (∃ v, I 63 N = nI 1 ∧ J 70 N = v ∧ L = [(3, p, v.toInt32, 0)]) ∨
    (∃ v q, I 63 N = nI 2 ∧ cr N v ∧ ar v = q ∧ L = (match q with | some j => [(4, p, nI j, 0)] | none => [(5, p, 0, v)])) ∨
    (∃ v g M1 M2 M3, I 63 N = nI 3 ∧ cr N v ∧ I 69 N = nI g ∧ g ≤ 3 ∧ ((g < 1 ∧ M1 = []) ∨ (1 ≤ g ∧ ∃ c, I 64 N = nI c ∧ nd I J cr ar lo hi f c M1)) ∧ ((g < 2 ∧ M2 = []) ∨ (2 ≤ g ∧ ∃ c, I 65 N = nI c ∧ nd I J cr ar lo hi f c M2)) ∧ ((g < 3 ∧ M3 = []) ∨ (3 ≤ g ∧ ∃ c, I 66 N = nI c ∧ nd I J cr ar lo hi f c M3)) ∧ L = (6, p, nI g, v) :: (M1 ++ (M2 ++ (M3 ++ [(8, p, nI g, v)])))) ∨
    (∃ c M, I 63 N = nI 4 ∧ I 64 N = nI c ∧ nd I J cr ar lo hi f c M ∧ L = (1, p, 0, 0) :: (M ++ [(10, p, 0, 0)])) ∨
    (∃ v c M, I 63 N = nI 5 ∧ cr N v ∧ I 64 N = nI c ∧ nd I J cr ar lo hi f c M ∧ L = (1, p, 0, 0) :: (M ++ [(9, p, 0, v)])) ∨
    (∃ x c1 c2 M1 M2, I 63 N = nI 6 ∧ J 70 N = (nI x).toInt64 ∧ lvl x ≤ 2 ∧ I 64 N = nI c1 ∧ I 65 N = nI c2 ∧ nd I J cr ar lo hi f c1 M1 ∧ nd I J cr ar lo hi f c2 M2 ∧ L = (1, p, 0, 0) :: (M1 ++ (M2 ++ [(x, p, 0, 0)]))) ∨
    (∃ c1 c2 c3 M1 M2 M3, I 63 N = nI 7 ∧ I 64 N = nI c1 ∧ I 65 N = nI c2 ∧ I 66 N = nI c3 ∧ nd I J cr ar lo hi f c1 M1 ∧ nd I J cr ar lo hi f c2 M2 ∧ nd I J cr ar lo hi f c3 M3 ∧ L = (1, p, 0, 0) :: (M1 ++ (11, p, nI (M2.length + 1), 0) :: (M2 ++ (12, p, nI M3.length, 0) :: M3))))
theorem nd.bd {I : pmI} {J : pmJ} {cr : Nat → Int64 → Prop} {ar : Int64 → Option Nat} {lo hi f N : Nat} {L : List dD} (h : nd I J cr ar lo hi f N L) : lo ≤ N ∧ N < hi := by
  cases f with
  | zero => exact h.elim
  | succ f => exact h.1
theorem nd.mv {I I' : pmI} {J J' : pmJ} {cr cr' : Nat → Int64 → Prop} {ar : Int64 → Option Nat} {lo hi lo' hi' : Nat} (hh : hi ≤ hi') (hlo : lo' ≤ lo) (hI : ∀ a k, 63 ≤ a → a ≤ 69 → lo ≤ k → k < hi → I' a k = I a k) (hJ : ∀ k, lo ≤ k → k < hi → J' 70 k = J 70 k) (hc : ∀ k v, lo ≤ k → k < hi → cr k v → cr' k v) : ∀ (f f' N : Nat) (L : List dD), f ≤ f' → nd I J cr ar lo hi f N L → nd I' J' cr' ar lo' hi' f' N L := by
  intro f
  induction f with
  | zero => intro f' N L _ h; exact h.elim
  | succ f ih =>
    intro f' N L hf h
    obtain ⟨f', rfl⟩ : ∃ g, f' = g + 1 := ⟨f' - 1, by omega⟩
    obtain ⟨hb, p, hp, h⟩ := h
    have e : ∀ a, 63 ≤ a → a ≤ 69 → I' a N = I a N := fun a h1 h2 => hI a N h1 h2 hb.1 hb.2
    have eJ := hJ N hb.1 hb.2
    have g : ∀ c M, nd I J cr ar lo hi f c M → nd I' J' cr' ar lo' hi' f' c M := fun c M hM => ih f' c M (by omega) hM
    refine ⟨⟨by omega, by omega⟩, p, by rw [e 67 (by decide) (by decide)]; exact hp, ?_⟩
    rcases h with ⟨v, h1, h2, h3⟩ | ⟨v, h1, h2, h3⟩ | ⟨v, q, h1, h2, h3, h4⟩ | ⟨v, g', M1, M2, M3, h1, h2, h3, h4, h5, h6, h7, h8⟩ | ⟨c, M, h1, h2, h3, h4⟩ | ⟨v, c, M, h1, h2, h3, h4, h5⟩ | ⟨x, c1, c2, M1, M2, h1, h2, h3, h4, h5, h6, h7, h8⟩ | ⟨c1, c2, c3, M1, M2, M3, h1, h2, h3, h4, h5, h6, h7, h8⟩
    · exact Or.inl ⟨v, by rw [e 63 (by decide) (by decide)]; exact h1, by rw [eJ]; exact h2, h3⟩
    · exact Or.inr (Or.inl ⟨v, by rw [e 63 (by decide) (by decide)]; exact h1, by rw [eJ]; exact h2, h3⟩)
    · exact Or.inr (Or.inr (Or.inl ⟨v, q, by rw [e 63 (by decide) (by decide)]; exact h1, hc N v hb.1 hb.2 h2, h3, h4⟩))
    · refine Or.inr (Or.inr (Or.inr (Or.inl ⟨v, g', M1, M2, M3, by rw [e 63 (by decide) (by decide)]; exact h1, hc N v hb.1 hb.2 h2, by rw [e 69 (by decide) (by decide)]; exact h3, h4, ?_, ?_, ?_, h8⟩)))
      · rcases h5 with h5 | ⟨h5, c, h9, h10⟩
        · exact Or.inl h5
        · exact Or.inr ⟨h5, c, by rw [e 64 (by decide) (by decide)]; exact h9, g _ _ h10⟩
      · rcases h6 with h6 | ⟨h6, c, h9, h10⟩
        · exact Or.inl h6
        · exact Or.inr ⟨h6, c, by rw [e 65 (by decide) (by decide)]; exact h9, g _ _ h10⟩
      · rcases h7 with h7 | ⟨h7, c, h9, h10⟩
        · exact Or.inl h7
        · exact Or.inr ⟨h7, c, by rw [e 66 (by decide) (by decide)]; exact h9, g _ _ h10⟩
    · exact Or.inr (Or.inr (Or.inr (Or.inr (Or.inl ⟨c, M, by rw [e 63 (by decide) (by decide)]; exact h1, by rw [e 64 (by decide) (by decide)]; exact h2, g _ _ h3, h4⟩))))
    · exact Or.inr (Or.inr (Or.inr (Or.inr (Or.inr (Or.inl ⟨v, c, M, by rw [e 63 (by decide) (by decide)]; exact h1, hc N v hb.1 hb.2 h2, by rw [e 64 (by decide) (by decide)]; exact h3, g _ _ h4, h5⟩)))))
    · exact Or.inr (Or.inr (Or.inr (Or.inr (Or.inr (Or.inr (Or.inl ⟨x, c1, c2, M1, M2, by rw [e 63 (by decide) (by decide)]; exact h1, by rw [eJ]; exact h2, h3, by rw [e 64 (by decide) (by decide)]; exact h4, by rw [e 65 (by decide) (by decide)]; exact h5, g _ _ h6, g _ _ h7, h8⟩))))))
    · exact Or.inr (Or.inr (Or.inr (Or.inr (Or.inr (Or.inr (Or.inr ⟨c1, c2, c3, M1, M2, M3, by rw [e 63 (by decide) (by decide)]; exact h1, by rw [e 64 (by decide) (by decide)]; exact h2, by rw [e 65 (by decide) (by decide)]; exact h3, by rw [e 66 (by decide) (by decide)]; exact h4, g _ _ h5, g _ _ h6, g _ _ h7, h8⟩))))))
/-- a node's NAME, ahead of its number: that of its TOKEN -/
def crT (tx : Nat → Nat) (n : Nat) (I : pmI) (N : Nat) (v : Int64) : Prop := ∃ t, t < 60 ∧ I 68 N = nI t ∧ tk_k tx n t = 97 ∧ tk_v tx n t = v
/-- node N stands for this code, ahead of the numbering of NAMES -/
def nT (tx : Nat → Nat) (n kp : Nat) (pa : List Int64) (I : pmI) (J : pmJ) (s m f N : Nat) (L : List dD) : Prop := nd I J (crT tx n I) (fun v => ps_arg pa v 0) (64 * kp + s) (64 * kp + m) f N L
theorem nT.up {tx : Nat → Nat} {n kp T s s' m m' f f' N : Nat} {pa : List Int64} {I I' : pmI} {J J' : pmJ} {L : List dD} (h : nT tx n kp pa I J s m f N L) (hf : fq T (64 * kp + m) I I' J J') (hm : m ≤ m') (hff : f ≤ f') (hs : s' ≤ s := by omega) : nT tx n kp pa I' J' s' m' f' N L :=
  nd.mv (by omega) (by omega) (fun a k h1 h2 _ h4 => hf.2.2.2.1 a k h1 h2 h4) (fun k _ h4 => hf.2.2.2.2.2 k h4) (fun k v _ h4 ⟨t, h5, h6, h7⟩ => ⟨t, h5, by rw [hf.2.2.2.1 68 k (by decide) (by decide) h4]; exact h6, h7⟩) f f' N L hff h
theorem nT.ch {tx : Nat → Nat} {n kp s m f N : Nat} {pa : List Int64} {I : pmI} {J : pmJ} {L : List dD} (h : nT tx n kp pa I J s m f N L) : nch (64 * kp) (64 * kp + m) (nI N) := Or.inr ⟨N, by have := h.bd.1; omega, h.bd.2, rfl⟩

/-- the head of readExpr's loop -/
def LH (l : Launch) (E : pmE) (S : pmS) (P : pmP) (d : Nat) (Q : Option Value → pmS → pmI → pmJ → pmP → Prop) (I : pmI) (J : pmJ) : Prop := pm_W l E yX10_readExpr cX10_readExpr 2 none d 0 0 10 [(0, .ref 47)] [] S I J P (pm_N E Q)
/-- what is owed where a part was read -/
def qK1 (tx : Nat → Nat) (n i kp : Nat) (pa : List Int64) (H : pmI → pmJ → Prop) (a0 m0 T K op : Nat) (I : pmI) (J : pmJ) (r : Except Nat (Nat × List dD)) : Prop := ∀ b L N m' I' J', r = .ok (b, L) → qs tx n i kp I' J' b op T m' → I' 47 44 = nI N → nT tx n kp pa I' J' m0 m' (m' - m0) N L → (m0 < m' ∧ m' + a0 ≤ m0 + b) → fq T K I I' J J' → H I' J'
/-- what is owed where it was a FAULT -/
def qK0 (tx : Nat → Nat) (n kp : Nat) (H : pmI → pmJ → Prop) (I : pmI) (J : pmJ) (r : Except Nat (Nat × List dD)) : Prop := ∀ e I' J', r = .error e → I' 47 41 = nI (tk_p tx n e) → fq 0 (64 * kp) I I' J J' → H I' J'
theorem qK1.mv {tx : Nat → Nat} {n i kp : Nat} {pa : List Int64} {H : pmI → pmJ → Prop} {a0 m0 T K T' K' op : Nat} {I I1 : pmI} {J J1 : pmJ} {r : Except Nat (Nat × List dD)} (h : qK1 tx n i kp pa H a0 m0 T K op I J r) (hf : fq T K I I1 J J1) (hK : K ≤ K') (hT : T = T') : qK1 tx n i kp pa H a0 m0 T' K' op I1 J1 r := by
  subst hT
  exact fun b L N m' I' J' h1 h2 h3 h4 h5 h6 => h b L N m' I' J' h1 h2 h3 h4 h5 (hf.trans h6 (Nat.le_refl _) hK)
theorem qK0.mv {tx : Nat → Nat} {n kp T K : Nat} {H : pmI → pmJ → Prop} {I I1 : pmI} {J J1 : pmJ} {r : Except Nat (Nat × List dD)} (h : qK0 tx n kp H I J r) (hf : fq T K I I1 J J1) (hK : 64 * kp ≤ K) : qK0 tx n kp H I1 J1 r := fun e I' J' h1 h2 h3 => h e I' J' h1 h2 ((hf.le (Nat.zero_le _) hK).trans h3 (Nat.le_refl _) (Nat.le_refl _))
section QX
variable (l : Launch) (E : pmE) (S : pmS) (P : pmP) (d : Nat) (Q : Option Value → pmS → pmI → pmJ → pmP → Prop) (tx : Nat → Nat) (n i kp : Nat) (pa : List Int64) (f : Nat)
/-- a part of kind x is read at frame T -/
def qX (x : Nat) : Prop := ∀ (a op T m : Nat) (I : pmI) (J : pmJ) (r : Except Nat (Nat × List dD)), qs tx n i kp I J a op (T + 1) m → I 80 T = nI x → I 81 T = nI 0 → op ≤ 12 → T + 6 * (13 - op) + (6 - x) ≤ 200 → ps (tk_k tx n) (tk_p tx n) (tk_v tx n) pa f x a op [] 0 = some r → qK1 tx n i kp pa (LH l E S P d Q) a m T (64 * kp + m) op I J r → qK0 tx n kp (LH l E S P d Q) I J r → LH l E S P d Q I J
/-- a part of a row (level lv) was read: res has what was so far -/
def qO (lv : Nat) : Prop := ∀ (Q1 : Option Value → pmS → pmI → pmJ → pmP → Prop) (d1 a op T m a0 m0 k N : Nat) (acc : List dD) (I : pmI) (J : pmJ) (r : Except Nat (Nat × List dD)), (∀ I' J', LH l E S P d Q I' J' → Q1 none S I' J' P) → qs tx n i kp I J a op (T + 1) m → I 80 T = nI (lv + 1) → I 81 T = nI (if k = 0 then 1 else 2) → I 47 44 = nI N → nT tx n kp pa I J m0 m (m - m0) N acc → (m0 < m ∧ m + a0 ≤ m0 + a) → op ≤ 12 → T + 6 * (13 - op) + (5 - lv) ≤ 200 → 3 ≤ d1 → ps (tk_k tx n) (tk_p tx n) (tk_v tx n) pa f (lv + 11) a op acc k = some r → qK1 tx n i kp pa (LH l E S P d Q) a0 m0 T (64 * kp + m0) op I J r → qK0 tx n kp (LH l E S P d Q) I J r → pm_W l E yX10_row cX10_row 5 none d1 0 0 75 [(0, .ref 47), (1, .int (nI T)), (2, .int (nI (lv + 2))), (3, .int (nI (if lvl (tk_k tx n a) = lv then 1 else 0))), (4, .int (nI (if lv = 0 then 1 else 0)))] [] S I J P (pm_N E Q1)
/-- a FACT's ATOM, or a . NAME, was read -/
def qD : Prop := ∀ (a op T m a0 m0 k N : Nat) (acc : List dD) (I : pmI) (J : pmJ) (r : Except Nat (Nat × List dD)), qs tx n i kp I J a op (T + 1) m → I 80 T = nI 4 → I 81 T = nI 2 → I 47 44 = nI N → nT tx n kp pa I J m0 m (m - m0) N acc → (m0 < m ∧ m + a0 ≤ m0 + a) → op ≤ 12 → T ≤ 200 → ps (tk_k tx n) (tk_p tx n) (tk_v tx n) pa f 14 a op acc k = some r → qK1 tx n i kp pa (LH l E S P d Q) a0 m0 T (64 * kp + m0) op I J r → qK0 tx n kp (LH l E S P d Q) I J r → LH l E S P d Q I J
end QX
