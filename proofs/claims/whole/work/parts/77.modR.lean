/-! ===== the reference: rain ===== -/
def usm (f : Nat → Int) : Nat → Int
  | 0 => 0
  | n + 1 => usm f n + f n
theorem usm_c {f g : Nat → Int} : ∀ n, (∀ u, u < n → f u = g u) → usm f n = usm g n
  | 0, _ => rfl
  | n + 1, h => by
    unfold usm
    rw [usm_c n (fun u hu => h u (by omega)), h n (by omega)]
theorem usm_2 (f : Nat → Int) : ∀ n, usm f (2 * n) = usm (fun u => f (2 * u) + f (2 * u + 1)) n
  | 0 => rfl
  | n + 1 => by
    rw [show 2 * (n + 1) = 2 * n + 1 + 1 by omega]
    unfold usm
    rw [show usm f (2 * n + 1) = usm f (2 * n) + f (2 * n) from rfl, usm_2 f n]
    omega
theorem usm_lin (a b : Int) (f g : Nat → Int) : ∀ n, usm (fun u => a * f u + b * g u) n = a * usm f n + b * usm g n
  | 0 => by unfold usm; omega
  | n + 1 => by
    unfold usm
    rw [usm_lin a b f g n, Int.mul_add, Int.mul_add]
    omega
def ppu (c : Int) : Nat → Nat → Int
  | 0, _ => 1
  | m + 1, u => (if u % 2 = 1 then c else 10 - c) * ppu c m (u / 2)
def rdw (S : zT) (t u : Nat) : Int := if u % 2 = 1 then rwet (S 1 t) else S 1 t
def thu (S : zT) (r : Nat) : Nat → Nat → Int → Nat → Int
  | 0, _, _, _ => 1
  | m + 1, t, v, u => if 0 < sbh S t r v (rdw S t u) then thu S r m (t + 1) (sbh S t r v (rdw S t u)) (u / 2) else 0
theorem ppu_0 (c : Int) (m u : Nat) : ppu c (m + 1) (2 * u) = (10 - c) * ppu c m u := by
  show (if 2 * u % 2 = 1 then c else 10 - c) * ppu c m (2 * u / 2) = _
  rw [show 2 * u % 2 = 0 by omega, show 2 * u / 2 = u by omega, if_neg (by decide)]
theorem ppu_1 (c : Int) (m u : Nat) : ppu c (m + 1) (2 * u + 1) = c * ppu c m u := by
  show (if (2 * u + 1) % 2 = 1 then c else 10 - c) * ppu c m ((2 * u + 1) / 2) = _
  rw [show (2 * u + 1) % 2 = 1 by omega, show (2 * u + 1) / 2 = u by omega, if_pos rfl]
theorem thu_0 (S : zT) (r m t u : Nat) (v : Int) : thu S r (m + 1) t v (2 * u) = if 0 < sbh S t r v (S 1 t) then thu S r m (t + 1) (sbh S t r v (S 1 t)) u else 0 := by
  have e : rdw S t (2 * u) = S 1 t := by
    unfold rdw
    rw [if_neg (by omega)]
  rw [thu, e, show 2 * u / 2 = u by omega]
theorem thu_1 (S : zT) (r m t u : Nat) (v : Int) : thu S r (m + 1) t v (2 * u + 1) = if 0 < sbh S t r v (rwet (S 1 t)) then thu S r m (t + 1) (sbh S t r v (rwet (S 1 t))) u else 0 := by
  have e : rdw S t (2 * u + 1) = rwet (S 1 t) := by
    unfold rdw
    rw [if_pos (by omega)]
  rw [thu, e, show (2 * u + 1) / 2 = u by omega]
theorem ppu_s (c : Int) : ∀ m, usm (ppu c m) (2 ^ m) = 10 ^ m
  | 0 => rfl
  | m + 1 => by
    rw [show 2 ^ (m + 1) = 2 * 2 ^ m by rw [Nat.pow_succ, Nat.mul_comm], usm_2]
    rw [usm_c (g := fun u => (10 - c) * ppu c m u + c * ppu c m u) (2 ^ m) (fun u _ => by rw [ppu_0, ppu_1]), usm_lin, ppu_s c m, ← Int.add_mul, Int.pow_succ, Int.mul_comm]
    congr 1
    omega
theorem thu_s (S : zT) (r : Nat) (c : Int) : ∀ (m t v : Nat), usm (fun u => ppu c m u * thu S r m t (v : Int) u) (2 ^ m) = rfn S r c m t v
  | 0, t, v => rfl
  | m + 1, t, v => by
    have key : ∀ (d : Int), usm (fun u => ppu c m u * (if 0 < sbh S t r (v : Int) d then thu S r m (t + 1) (sbh S t r (v : Int) d) u else 0)) (2 ^ m) = rhat (rfn S r c m (t + 1)) (sbh S t r (v : Int) d) := fun d => by
      have hle := sbh_le S t r (v : Int) d
      unfold rhat
      by_cases hx : 0 < sbh S t r (v : Int) d
      · rw [if_pos (by omega), ← thu_s S r c m (t + 1)]
        refine usm_c _ (fun u _ => ?_)
        rw [if_pos hx, show (((sbh S t r (v : Int) d).toNat : Nat) : Int) = sbh S t r (v : Int) d by omega]
      · rw [if_neg (by omega)]
        have : ∀ n, usm (fun u => ppu c m u * (if 0 < sbh S t r (v : Int) d then thu S r m (t + 1) (sbh S t r (v : Int) d) u else 0)) n = 0 := fun n => by
          induction n with
          | zero => rfl
          | succ n ih =>
            unfold usm
            rw [ih, if_neg hx]
            omega
        exact this _
    rw [show 2 ^ (m + 1) = 2 * 2 ^ m by rw [Nat.pow_succ, Nat.mul_comm], usm_2]
    rw [usm_c (g := fun u => (10 - c) * (ppu c m u * (if 0 < sbh S t r (v : Int) (S 1 t) then thu S r m (t + 1) (sbh S t r (v : Int) (S 1 t)) u else 0)) + c * (ppu c m u * (if 0 < sbh S t r (v : Int) (rwet (S 1 t)) then thu S r m (t + 1) (sbh S t r (v : Int) (rwet (S 1 t))) u else 0))) (2 ^ m) (fun u _ => by rw [ppu_0, ppu_1, thu_0, thu_1, Int.mul_assoc, Int.mul_assoc]), usm_lin, key, key]
    rfl
/-- the turns as a set of rains leaves them -/
def rwS : Nat → Nat → Nat → zT → zT
  | 0, _, _, S => S
  | m + 1, t, u, S => rwS m (t + 1) (u / 2) (zup S 1 t (rdw S t u))
theorem rwS_o {a : Nat} (ha : a ≠ 1) : ∀ (m t u : Nat) (S : zT), rwS m t u S a = S a
  | 0, _, _, _ => rfl
  | m + 1, t, u, S => by
    unfold rwS
    rw [rwS_o ha m, zup_row _ _ ha]
theorem rwS_lo : ∀ (m t u : Nat) (S : zT) (q : Nat), q < t → rwS m t u S 1 q = S 1 q
  | 0, _, _, _, _, _ => rfl
  | m + 1, t, u, S, q, h => by
    unfold rwS
    rw [rwS_lo m (t + 1) (u / 2) _ q (by omega), zup_ne _ _ (by omega)]
theorem rdw_r {S : zT} {t : Nat} (u : Nat) (h : 0 ≤ S 1 t ∧ S 1 t ≤ 9) : 0 ≤ rdw S t u ∧ rdw S t u ≤ 9 := by
  unfold rdw rwet
  repeat' split
  all_goals omega
theorem rwS_sr : ∀ (m t u : Nat) (S : zT), t + m ≤ 10 → zSr S → zSr (rwS m t u S)
  | 0, _, _, _, _, h => h
  | m + 1, t, u, S, ht, h => rwS_sr m (t + 1) (u / 2) _ (by omega) (zSr_up1 h t (rdw_r u (h.2.1 t (by omega))))
theorem rwS_uq : ∀ (m t u : Nat) (S : zT), zuq S → zuq (rwS m t u S)
  | 0, _, _, _, h => h
  | m + 1, t, u, S, h => rwS_uq m (t + 1) (u / 2) _ (zuq_up h (by decide) (by decide) _ _)
theorem sbh_rw {S S' : zT} (h : ∀ a, a ≠ 1 → S a = S' a) (t r : Nat) (v g : Int) : sbh S t r v g = sbh S' t r v g := by
  unfold sbh sst
  rw [sgn_rw (h 2 (by decide)) (h 3 (by decide)) (h 4 (by decide)), h 0 (by decide), h 2 (by decide), h 6 (by decide)]
/-- through or not, with such rains -/
theorem thu_e {S0 : zT} {r : Nat} (h5 : 0 ≤ S0 5 r) : ∀ (m t u : Nat) (v : Int) (S S' : zT) (w : Nat → Int), t + m = 10 → 0 < v → (∀ a, a ≠ 1 → S a = S0 a) → (∀ a, a ≠ 1 → S' a = S0 a) → (∀ q, t ≤ q → S q = S q) → (∀ q, t ≤ q → q < 10 → S 1 q = S0 1 q) → S' = rwS m t u S → (0 ≤ (sft S' r m t v w).1 ∧ (sft S' r m t v w).1 ≤ 7 ∧ thu S0 r m t v u = 1) ∨ (10 ≤ (sft S' r m t v w).1 ∧ thu S0 r m t v u = 0)
  | 0, t, u, v, S, S', w, ht, hv, h1, h2, _, h3, hS => by
    left
    show 0 ≤ (v + S' 5 r) % 8 ∧ (v + S' 5 r) % 8 ≤ 7 ∧ (1 : Int) = 1
    exact ⟨by omega, by omega, rfl⟩
  | m + 1, t, u, v, S, S', w, ht, hv, h1, h2, _, h3, hS => by
    have e1 : S' 1 t = rdw S0 t u := by
      rw [hS]
      show rwS m (t + 1) (u / 2) (zup S 1 t (rdw S t u)) 1 t = _
      rw [rwS_lo _ _ _ _ _ (by omega), zup_at]
      unfold rdw
      rw [h3 t (Nat.le_refl t) (by omega)]
    unfold sft thu
    rw [sbh_rw h2, e1]
    by_cases hx : 0 < sbh S0 t r v (rdw S0 t u)
    · rw [if_pos hx, if_pos hx]
      exact thu_e h5 m (t + 1) (u / 2) _ (zup S 1 t (rdw S t u)) S' _ (by omega) hx (fun a ha => by rw [zup_row _ _ ha]; exact h1 a ha) h2 (fun _ _ => rfl) (fun q hq hq2 => by rw [zup_ne _ _ (by omega)]; exact h3 q (by omega) hq2) hS
    · rw [if_neg hx, if_neg hx]
      right
      exact ⟨by show 10 ≤ 10 + (t : Int); omega, rfl⟩
theorem thu_f {S : zT} {r u : Nat} (hS : zSr S) (h5 : r < 5) : (0 ≤ sfe (rwS 10 0 u S) r ∧ sfe (rwS 10 0 u S) r ≤ 7 ∧ thu S r 10 0 2 u = 1) ∨ (10 ≤ sfe (rwS 10 0 u S) r ∧ thu S r 10 0 2 u = 0) := by
  have hl := hS.2.2.2.2.2.1 r h5
  unfold sfe
  exact thu_e (S0 := S) (r := r) hl.1 10 0 u 2 S (rwS 10 0 u S) _ rfl (by omega) (fun _ _ => rfl) (fun a ha => rwS_o ha 10 0 u S) (fun _ _ => rfl) (fun _ _ _ => rfl) rfl
theorem zbit : ∀ (s : Fin 1024) (t : Fin 10), zand (zshr (s.val : Int) (t.val : Int)) 1 = ((s.val / 2 ^ t.val % 2 : Nat) : Int) := by decide +kernel
