theorem gX3_init_X1_init_n17 : GoodIn wsX3_init (wsX1_init) := ggX3_init_X1_init
theorem gX6_init_X0_init_n22 : GoodIn wsX6_init (wsX0_init) := ggX6_init_X0_init
theorem gX6_init_X3_init_n15 : GoodIn wsX6_init (wsX3_init) := ggX6_init_X3_init
theorem gX6_init_X4_init_n49 : GoodIn wsX6_init (wsX4_init) := ggX6_init_X4_init
theorem gX6_init_X5_init_n42 : GoodIn wsX6_init (wsX5_init) := ggX6_init_X5_init
