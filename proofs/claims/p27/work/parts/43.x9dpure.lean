/-- what the twin holds when some bowings are played: its piece is shorter -/
def mpS (s : SV) (i : Nat) : SV := s_pc (plS s i) (fun j => sv_fs s (j + i)) (fun j => sv_fa s (j + i)) (fun j => sv_fk s (j + i)) (sv_ps s - i)
/-- states that hold the same -/
def SE (s t : SV) : Prop := (∀ p, p < 144 → sv_g s p = sv_g t p) ∧ (∀ k, k < 4 → sv_se s k = sv_se t k) ∧ sv_st s = sv_st t ∧ sv_sw s = sv_sw t ∧ sv_fl s = sv_fl t ∧ sv_sk s = sv_sk t ∧ sv_mu s = sv_mu t ∧ sv_la s = sv_la t ∧ sv_nc s = sv_nc t ∧ (∀ c, c < sv_nc t → sv_cr s c = sv_cr t c ∧ sv_cc s c = sv_cc t c) ∧ sv_ps s = sv_ps t ∧ ∀ k, k < sv_ps t → sv_fs s k = sv_fs t k ∧ sv_fa s k = sv_fa t k ∧ sv_fk s k = sv_fk t k
