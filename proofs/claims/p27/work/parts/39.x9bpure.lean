def s_pc (s : SV) (fs fa fk : Nat → Nat) (ps : Nat) : SV := mkS (sv_g s) (sv_cc s) (sv_cr s) (sv_nc s) (sv_se s) fs fa fk ps (sv_la s) (sv_st s) (sv_sw s) (sv_fl s) (sv_sk s) (sv_mu s)
