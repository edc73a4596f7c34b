/-! the start -/
def w0 : Nat → Int32 := upd (upd (fun _ => 0) 4 2) 5 20
def g0 : GS := (fun c k => bif Nat.beq c 7 && Nat.beq k 7 then -1 else bif Nat.beq c 63 && Nat.beq k 10 then -1 else bif (Nat.beq c 8 || Nat.beq c 20 || Nat.beq c 30) && Nat.beq k 12 then 2 else bif (Nat.beq c 8 || Nat.beq c 20 || Nat.beq c 30) && Nat.beq k 13 then 20 else 0, fun c => bif Nat.beq c 64 then w0 else fun _ => 0, fun _ _ => 0, fun c _ => bif Nat.beq c 1 then .ref (CST + 0) else bif Nat.beq c 8 then .ref 14 else bif Nat.beq c 20 then .ref 26 else .ref 36, fun _ _ => none, [])
theorem w0_at {i : Nat} (h4 : ¬ i = 4) (h5 : ¬ i = 5) : w0 i = 0 := by
  unfold w0
  rw [upd_other h5, upd_other h4]
theorem czF_z0 {f : Nat → Int} : ∀ n, (∀ i, i < n → f i = 0) → czF f n = 0
  | 0, _ => rfl
  | n + 1, h => by
    unfold czF
    rw [czF_z0 n (fun i hi => h i (by omega)), if_pos (Int.le_of_eq (h n (by omega)))]
theorem NZ_0 {W : Nat → Int32} : ∀ s, (∀ i, 18 ≤ i → W i = 0) → NZ W s = 0
  | 0, _ => rfl
  | s + 1, h => by
    unfold NZ
    rw [NZ_0 s h, czF_z0 32 (fun i _ => by unfold zC zW; rw [h _ (by omega)]; rfl)]
theorem zS_0 {f : Nat → Int} : ∀ n, (∀ i, i < n → f i = 0) → zS f n = 0
  | 0, _ => rfl
  | n + 1, h => by
    unfold zS
    rw [zS_0 n (fun i hi => h i (by omega)), h n (by omega)]; rfl
theorem w0_WB : WB w0 := by
  have z : ∀ i, ¬ i = 4 → ¬ i = 5 → zW w0 i = 0 := fun i h4 h5 => by unfold zW; rw [w0_at h4 h5]; rfl
  have eN : mN w0 = 0 := rfl
  have eR : mR w0 = 0 := rfl
  have eG : mG w0 = 2 := rfl
  have eT : mT w0 = 20 := rfl
  refine ⟨fun s hs => ⟨fun k hk => ?_, ?_⟩, ?_, fun z' hz => ?_, ?_, ?_, ?_, fun k hk => ?_, ?_, ?_, ?_, ?_, ?_, ?_⟩
  · unfold zC; rw [z _ (by omega) (by omega)]; omega
  · rw [zS_0 34 (fun i hi => by unfold zC; exact z _ (by omega) (by omega))]; omega
  · unfold LB; rw [z 8 (by omega) (by omega)]; omega
  · rw [z _ (by omega) (by omega)]; omega
  · rw [z 9 (by omega) (by omega)]; omega
  · rw [NZ_0 32 (fun i hi => w0_at (by omega) (by omega))]; omega
  · rw [eN]; exact ⟨by omega, rfl⟩
  · rw [eN] at hk; omega
  · rw [z 6 (by omega) (by omega)]; omega
  · rw [z 7 (by omega) (by omega)]; omega
  · rw [eG]; exact ⟨by omega, rfl⟩
  · rw [eT]; exact ⟨by omega, by omega, rfl⟩
  · rw [eR]; exact ⟨by omega, rfl⟩
  · rw [z 0 (by omega) (by omega)]; omega
theorem g0_Rel : Rel 0 g0 := by
  have hWB := w0_WB
  have eN : mN w0 = 0 := rfl
  have eR : mR w0 = 0 := rfl
  have e64 : gA g0 64 = w0 := rfl
  refine ⟨⟨[], fun _ => [], ?_, ?_⟩, fun s hs => ⟨rfl, rfl⟩, rfl, ⟨0, by omega, rfl, rfl, fun i hi => absurd hi (by omega)⟩, rfl, ⟨⟨36, rfl⟩, fun i hi v hv => (by cases hv), Or.inl rfl, Or.inl ⟨rfl, rfl⟩⟩, Nat.le_refl _⟩
  · rw [e64]
    refine ⟨hWB, by rw [NZ_0 32 (fun i hi => w0_at (by omega) (by omega))]; omega, ⟨hWB.2.2.2.2.2.2.2.2.2.1, hWB.2.2.2.2.2.2.2.2.2.2.1, ⟨by rw [eR]; omega, rfl, fun r hr => ?_⟩, hWB.2.2.2.2.2.1, fun x => absurd rfl x, fun l hl => (by cases hl)⟩, fun r hr => ?_⟩
    · rw [eR] at hr; omega
    · rw [eR] at hr; omega
  · rw [e64]
    refine ⟨⟨fun s k hs hk => ?_, fun z hz => ?_, fun k hk => ?_, fun p h6 h7 => rfl, rfl, rfl, rfl, rfl, rfl, rfl, rfl, rfl, rfl⟩, Or.inl ⟨rfl, rfl, rfl⟩, fun r hr => ?_, fun i hi v hv => (by cases hv)⟩
    · rw [w0_at (by omega) (by omega)]; rfl
    · rw [w0_at (by omega) (by omega)]; rfl
    · rw [eN] at hk; omega
    · rw [eR] at hr; omega
theorem g0_Wd : mdClass 0 ++ (mdO 63 ++ [.inl (1, 1, .inr (.inl (fun _ => 0)))]) = Wd g0 := rfl
