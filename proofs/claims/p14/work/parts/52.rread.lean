/-- what the reference's read() leaves as it was -/
def frd (kp : Nat) (I I' : pmI) (J J' : pmJ) : Prop := (∀ a, a ≠ 47 → a ≠ 55 → a ≠ 57 → a ≠ 60 → a ≠ 77 → a ≠ 78 → a ≠ 86 → (a < 63 ∨ 69 < a) → (a < 80 ∨ 85 < a) → I' a = I a) ∧ (∀ k, k ≠ 36 → (k < 40 ∨ 45 < k) → I' 47 k = I 47 k) ∧ (∀ a j, a = 55 ∨ a = 57 ∨ a = 60 → j ≠ kp → I' a j = I a j) ∧ (∀ a k, 63 ≤ a → a ≤ 69 → k < 64 * kp → I' a k = I a k) ∧ (∀ a, a ≠ 70 → a ≠ 79 → J' a = J a) ∧ ∀ k, k < 64 * kp → J' 70 k = J 70 k
theorem frd.trans {kp : Nat} {I I1 I2 : pmI} {J J1 J2 : pmJ} (h : frd kp I I1 J J1) (h' : frd kp I1 I2 J1 J2) : frd kp I I2 J J2 :=
  ⟨fun a h1 h2 h3 h4 h5 h6 h7 h8 h9 => by rw [h'.1 a h1 h2 h3 h4 h5 h6 h7 h8 h9, h.1 a h1 h2 h3 h4 h5 h6 h7 h8 h9], fun k h1 h2 => by rw [h'.2.1 k h1 h2, h.2.1 k h1 h2], fun a j h1 h2 => by rw [h'.2.2.1 a j h1 h2, h.2.2.1 a j h1 h2], fun a k h1 h2 h3 => by rw [h'.2.2.2.1 a k h1 h2 h3, h.2.2.2.1 a k h1 h2 h3], fun a h1 h2 => by rw [h'.2.2.2.2.1 a h1 h2, h.2.2.2.2.1 a h1 h2], fun k hk => by rw [h'.2.2.2.2.2 k hk, h.2.2.2.2.2 k hk]⟩
theorem fr47.rd {kp : Nat} {I I' : pmI} {J J' : pmJ} (h : fr47 I I' J J') : frd kp I I' J J' :=
  ⟨fun a h1 _ _ _ h5 h6 _ _ _ => h.1 a h1 h5 h6, fun k h1 _ => h.2.1 k h1, fun a j h1 _ => by rw [h.1 a (by omega) (by omega) (by omega)], fun a k h1 h2 _ => by rw [h.1 a (by omega) (by omega) (by omega)], fun a _ h2 => h.2.2 a h2, fun k _ => by rw [h.2.2 70 (by decide)]⟩
theorem fq.rd {kp T : Nat} {I I' : pmI} {J J' : pmJ} (h : fq T (64 * kp) I I' J J') : frd kp I I' J J' :=
  ⟨fun a h1 _ _ _ _ _ _ h8 h9 => h.1 a h1 h8 h9, fun k _ h2 => h.2.1 k h2, fun a j h1 _ => by rw [h.1 a (by omega) (by omega) (by omega)], fun a k h1 h2 h3 => h.2.2.2.1 a k h1 h2 h3, fun a h1 _ => h.2.2.2.2.1 a h1, fun k hk => h.2.2.2.2.2 k hk⟩
theorem fp.rd {kp : Nat} {I I' : pmI} {J : pmJ} (h : fp kp I I') : frd kp I I' J J :=
  ⟨fun a h1 _ h3 _ _ _ h7 _ _ => h.1 a h1 h3 h7, fun k _ h2 => h.2.1 k h2, fun a j h1 hj => by
    rcases h1 with rfl | rfl | rfl
    · rw [h.1 55 (by decide) (by decide) (by decide)]
    · exact h.2.2 j hj
    · rw [h.1 60 (by decide) (by decide) (by decide)], fun a k h1 h2 _ => by rw [h.1 a (by omega) (by omega) (by omega)], fun _ _ _ => rfl, fun _ _ => rfl⟩
theorem frd.put {kp b : Nat} {I : pmI} {J : pmJ} {x : Int32} (hb : b = 55 ∨ b = 57 ∨ b = 60) : frd kp I (pm_u I b kp x) J J :=
  ⟨fun a _ h2 h3 h4 _ _ _ _ _ => pm_u_ne (by omega), fun k _ _ => by rw [pm_u_ne (by omega)], fun a j h1 hj => by
    by_cases e : a = b
    · subst e; rw [pm_u_eq, pm_up_ne hj]
    · rw [pm_u_ne e], fun a k h1 h2 _ => by rw [pm_u_ne (by omega)], fun _ _ _ => rfl, fun _ _ => rfl⟩
/-- the SNIPPET that the reference read -/
def rdN (tx : Nat → Nat) (n i kp : Nat) (I : pmI) (J : pmJ) (form : Nat) (dec : Int64) (pa : List Int64) (L : List dD) : Prop := rC tx n I J i ∧ I 55 kp = nI form ∧ (form = 0 ∧ dec = 0 ∨ 1 < i ∧ tk_k tx n 1 = 97 ∧ dec = tk_v tx n 1) ∧ I 57 kp = nI pa.length ∧ pT tx n i I pa ∧ ∃ m, I 47 43 = nI m ∧ m ≤ 60 ∧ nX tx n I (64 * kp) (64 * kp + m) ∧ ((form ≤ 2 ∧ ∃ N, I 60 kp = nI N ∧ nT tx n kp pa I J 0 m m N L) ∨ (I 60 kp = -5 ∧ m = 0 ∧ (form = 1 ∧ L = [(7, 0, 0, 0)] ∨ form = 3 ∧ L = [])))
/-- what stays the same of the SNIPPET's rows while its EXPR is read, and when its root is put -/
theorem nT.rt {tx : Nat → Nat} {n kp s m f N j : Nat} {pa : List Int64} {I : pmI} {J : pmJ} {L : List dD} {x : Int32} {b : Nat} (hb : b < 63 ∨ 69 < b) (h : nT tx n kp pa I J s m f N L) : nT tx n kp pa (pm_u I b j x) J s m f N L :=
  nd.mv (Nat.le_refl _) (Nat.le_refl _) (fun a k h1 h2 _ _ => by rw [pm_u_ne (by omega)]) (fun _ _ _ => rfl) (fun k v _ _ ⟨t, h5, h6, h7⟩ => ⟨t, h5, by rw [pm_u_ne (by omega)]; exact h6, h7⟩) f f N L (Nat.le_refl _) h
theorem nI_ex (x : Int32) : ∃ T, T < 2 ^ 32 ∧ x = nI T := by
  refine ⟨x.toBitVec.toNat, x.toBitVec.isLt, ?_⟩
  show x = Int32.ofNat x.toBitVec.toNat
  exact Int32.toBitVec_inj.mp (by rw [Int32.toBitVec_ofNat', BitVec.ofNat_toNat, BitVec.setWidth_eq])
theorem rd_qs {tx : Nat → Nat} {n i kp : Nat} {I : pmI} {J : pmJ} (hC : rC tx n I J i) (hkp : I 47 10 = nI kp ∧ kp ≤ 39) : ∃ T, qs tx n i kp (pm_u (pm_u (pm_u (pm_u (pm_u (pm_u I 47 40 (nI 0)) 47 41 (-1)) 47 42 (nI 0)) 47 43 (nI 0)) 57 kp (nI 0)) 60 kp (-5)) J 0 0 T 0 := by
  have hf : fq 0 0 I (pm_u (pm_u (pm_u (pm_u I 47 40 (nI 0)) 47 41 (-1)) 47 42 (nI 0)) 47 43 (nI 0)) J J := (((fq.put (by decide) (by decide)).trans (fq.put (by decide) (by decide)) (Nat.le_refl _) (Nat.le_refl _)).trans (fq.put (by decide) (by decide)) (Nat.le_refl _) (Nat.le_refl _)).trans (fq.put (by decide) (by decide)) (Nat.le_refl _) (Nat.le_refl _)
  obtain ⟨T, hT, eT⟩ := nI_ex (I 47 45)
  refine ⟨T, ?_⟩
  have h0 : qs tx n i kp (pm_u (pm_u (pm_u (pm_u I 47 40 (nI 0)) 47 41 (-1)) 47 42 (nI 0)) 47 43 (nI 0)) J 0 0 T 0 := by
    refine ⟨hC.fq' hf, ⟨?_, hkp.2⟩, ⟨?_, Nat.zero_le _⟩, ?_, ?_, ⟨?_, hT⟩, ⟨by rw [pm_u_eq, pm_up_eq], Nat.le_refl _⟩, ⟨(fun k h1 h2 => absurd h2 (by omega)), fun k h1 h2 => absurd h2 (by omega)⟩, (fun k h1 h2 => absurd h2 (by omega)), fun k h1 h2 => absurd h2 (by omega)⟩
    · rw [pm_u_eq, pm_up_ne (by decide), pm_u_eq, pm_up_ne (by decide), pm_u_eq, pm_up_ne (by decide), pm_u_eq, pm_up_ne (by decide)]; exact hkp.1
    · rw [pm_u_eq, pm_up_ne (by decide), pm_u_eq, pm_up_ne (by decide), pm_u_eq, pm_up_ne (by decide), pm_u_eq, pm_up_eq]
    · rw [pm_u_eq, pm_up_ne (by decide), pm_u_eq, pm_up_ne (by decide), pm_u_eq, pm_up_eq]
    · rw [pm_u_eq, pm_up_ne (by decide), pm_u_eq, pm_up_eq]
    · rw [pm_u_eq, pm_up_ne (by decide), pm_u_eq, pm_up_ne (by decide), pm_u_eq, pm_up_ne (by decide), pm_u_eq, pm_up_ne (by decide)]; exact eT
  exact (h0.ot (b := 57) (j := kp) (by omega) (nI 0)).ot (b := 60) (j := kp) (by omega) (-5)

theorem rdN_mk1 {tx : Nat → Nat} {n i kp b T m N form : Nat} {I : pmI} {J : pmJ} {dec : Int64} {pa : List Int64} {L : List dD} {x : Int32} (hs : qs tx n i kp I J b 0 T m) (hso : I 55 kp = nI form) (hdec : form = 0 ∧ dec = 0 ∨ 1 < i ∧ tk_k tx n 1 = 97 ∧ dec = tk_v tx n 1) (hpar : I 57 kp = nI pa.length) (hpT : pT tx n i I pa) (hf : form ≤ 2) (hn : nT tx n kp pa I J 0 m m N L) : rdN tx n i kp (pm_u (pm_u I 60 kp (nI N)) 47 40 x) J form dec pa L := by
  have h1 := hs.ot (b := 60) (j := kp) (by omega) (nI N)
  have hi6 := hs.1.2.1
  have hbi := hs.2.2.1.2
  have hmb := hs.2.2.2.2.2.2.1.2
  refine ⟨h1.1.fq' (fq.put (T := 0) (K := 0) (by decide) (by decide)), ?_, hdec, ?_, hpT.mv (by rw [pm_u_ne (by decide), pm_u_ne (by decide)]), m, ?_, by omega, h1.2.2.2.2.2.2.2.mv (fun a h3 h4 k _ => by rw [pm_u_ne (by omega)]), Or.inl ⟨hf, N, ?_, (hn.rt (by omega)).rt (by omega)⟩⟩
  · rw [pm_u_ne (by decide), pm_u_ne (by decide)]; exact hso
  · rw [pm_u_ne (by decide), pm_u_ne (by decide)]; exact hpar
  · rw [pm_u_eq, pm_up_ne (by decide), pm_u_ne (by decide)]; exact hs.2.2.2.2.2.2.1.1
  · rw [pm_u_ne (by decide), pm_u_eq, pm_up_eq]
theorem rdN_mk2 {tx : Nat → Nat} {n i kp b T form : Nat} {I : pmI} {J : pmJ} {dec : Int64} {pa : List Int64} {L : List dD} {x : Int32} (hs : qs tx n i kp I J b 0 T 0) (hso : I 55 kp = nI form) (hdec : form = 0 ∧ dec = 0 ∨ 1 < i ∧ tk_k tx n 1 = 97 ∧ dec = tk_v tx n 1) (hpar : I 57 kp = nI pa.length) (hpT : pT tx n i I pa) (hro : I 60 kp = -5) (hf : form = 1 ∧ L = [(7, 0, 0, 0)] ∨ form = 3 ∧ L = []) : rdN tx n i kp (pm_u I 47 40 x) J form dec pa L := by
  refine ⟨hs.1.fq' (fq.put (T := 0) (K := 0) (by decide) (by decide)), ?_, hdec, ?_, hpT.mv (by rw [pm_u_ne (by decide)]), 0, ?_, by omega, hs.2.2.2.2.2.2.2.mv (fun a h3 h4 k _ => by rw [pm_u_ne (by omega)]), Or.inr ⟨?_, rfl, hf⟩⟩
  · rw [pm_u_ne (by decide)]; exact hso
  · rw [pm_u_ne (by decide)]; exact hpar
  · rw [pm_u_eq, pm_up_ne (by decide)]; exact hs.2.2.2.2.2.2.1.1
  · rw [pm_u_ne (by decide)]; exact hro
