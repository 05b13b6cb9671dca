theorem dL_holds_715 : decode cL_holds 715 = .ok (.iconst 0, 1) := by decide +kernel
theorem dL_holds_716 : decode cL_holds 716 = .ok (.iconst 0, 1) := by decide +kernel
theorem dL_holds_717 : decode cL_holds 717 = .ok (.invokestatic 150, 3) := by decide +kernel
theorem dL_holds_720 : decode cL_holds 720 = .ok (.iload 10, 2) := by decide +kernel
theorem dL_holds_722 : decode cL_holds 722 = .ok (.if_icmp .ne 7, 3) := by decide +kernel
theorem dL_holds_725 : decode cL_holds 725 = .ok (.iconst 1, 1) := by decide +kernel
theorem dL_holds_726 : decode cL_holds 726 = .ok (.goto 4, 3) := by decide +kernel
theorem dL_holds_729 : decode cL_holds 729 = .ok (.iconst 0, 1) := by decide +kernel
theorem dL_holds_730 : decode cL_holds 730 = .ok (.if_icmp .ne 94, 3) := by decide +kernel
theorem dL_holds_733 : decode cL_holds 733 = .ok (.iload 13, 2) := by decide +kernel
theorem dL_holds_735 : decode cL_holds 735 = .ok (.iconst 1, 1) := by decide +kernel
theorem dL_holds_736 : decode cL_holds 736 = .ok (.if_icmp .ne 7, 3) := by decide +kernel
theorem dL_holds_739 : decode cL_holds 739 = .ok (.iconst 1, 1) := by decide +kernel
theorem dL_holds_740 : decode cL_holds 740 = .ok (.goto 4, 3) := by decide +kernel
theorem dL_holds_743 : decode cL_holds 743 = .ok (.iconst 0, 1) := by decide +kernel
theorem dL_holds_744 : decode cL_holds 744 = .ok (.iload 7, 2) := by decide +kernel
theorem dL_holds_746 : decode cL_holds 746 = .ok (.ifCond .le 7, 3) := by decide +kernel
theorem dL_holds_749 : decode cL_holds 749 = .ok (.iconst 1, 1) := by decide +kernel
theorem dL_holds_750 : decode cL_holds 750 = .ok (.goto 4, 3) := by decide +kernel
theorem dL_holds_753 : decode cL_holds 753 = .ok (.iconst 0, 1) := by decide +kernel
theorem dL_holds_754 : decode cL_holds 754 = .ok (.if_icmp .ne 70, 3) := by decide +kernel
theorem dL_holds_757 : decode cL_holds 757 = .ok (.aload_n 0, 1) := by decide +kernel
theorem dL_holds_758 : decode cL_holds 758 = .ok (.iconst 5, 1) := by decide +kernel
theorem dL_holds_759 : decode cL_holds 759 = .ok (.iload 10, 2) := by decide +kernel
theorem dL_holds_761 : decode cL_holds 761 = .ok (.iconst 0, 1) := by decide +kernel
theorem dL_holds_762 : decode cL_holds 762 = .ok (.iconst 0, 1) := by decide +kernel
theorem dL_holds_763 : decode cL_holds 763 = .ok (.invokestatic 150, 3) := by decide +kernel
theorem dL_holds_766 : decode cL_holds 766 = .ok (.iload 11, 2) := by decide +kernel
theorem dL_holds_768 : decode cL_holds 768 = .ok (.iload 13, 2) := by decide +kernel
theorem dL_holds_770 : decode cL_holds 770 = .ok (.ifCond .ne 7, 3) := by decide +kernel
theorem dL_holds_773 : decode cL_holds 773 = .ok (.iconst 1, 1) := by decide +kernel
theorem dL_holds_774 : decode cL_holds 774 = .ok (.goto 4, 3) := by decide +kernel
theorem dL_holds_777 : decode cL_holds 777 = .ok (.iconst 0, 1) := by decide +kernel
theorem dL_holds_778 : decode cL_holds 778 = .ok (.iadd, 1) := by decide +kernel
theorem dL_holds_779 : decode cL_holds 779 = .ok (.if_icmp .ne 45, 3) := by decide +kernel
theorem dL_holds_782 : decode cL_holds 782 = .ok (.aload_n 0, 1) := by decide +kernel
theorem dL_holds_783 : decode cL_holds 783 = .ok (.iconst 1, 1) := by decide +kernel
theorem dL_holds_784 : decode cL_holds 784 = .ok (.iconst 5, 1) := by decide +kernel
theorem dL_holds_785 : decode cL_holds 785 = .ok (.iconst 0, 1) := by decide +kernel
theorem dL_holds_786 : decode cL_holds 786 = .ok (.iconst 0, 1) := by decide +kernel
theorem dL_holds_787 : decode cL_holds 787 = .ok (.invokestatic 150, 3) := by decide +kernel
theorem dL_holds_790 : decode cL_holds 790 = .ok (.iload 12, 2) := by decide +kernel
theorem dL_holds_792 : decode cL_holds 792 = .ok (.iconst 1, 1) := by decide +kernel
theorem dL_holds_793 : decode cL_holds 793 = .ok (.iadd, 1) := by decide +kernel
theorem dL_holds_794 : decode cL_holds 794 = .ok (.if_icmp .ne 30, 3) := by decide +kernel
theorem dL_holds_797 : decode cL_holds 797 = .ok (.aload_n 0, 1) := by decide +kernel
theorem dL_holds_798 : decode cL_holds 798 = .ok (.iconst 1, 1) := by decide +kernel
theorem dL_holds_799 : decode cL_holds 799 = .ok (.iconst 0, 1) := by decide +kernel
theorem dL_holds_800 : decode cL_holds 800 = .ok (.iconst 0, 1) := by decide +kernel
theorem dL_holds_801 : decode cL_holds 801 = .ok (.iconst 0, 1) := by decide +kernel
theorem dL_holds_802 : decode cL_holds 802 = .ok (.invokestatic 150, 3) := by decide +kernel
theorem dL_holds_805 : decode cL_holds 805 = .ok (.ifCond .ne 19, 3) := by decide +kernel
theorem dL_holds_808 : decode cL_holds 808 = .ok (.aload_n 0, 1) := by decide +kernel
theorem dL_holds_809 : decode cL_holds 809 = .ok (.bipush 13, 2) := by decide +kernel
theorem dL_holds_811 : decode cL_holds 811 = .ok (.iconst 0, 1) := by decide +kernel
theorem dL_holds_812 : decode cL_holds 812 = .ok (.iconst 0, 1) := by decide +kernel
theorem dL_holds_813 : decode cL_holds 813 = .ok (.iconst 0, 1) := by decide +kernel
theorem dL_holds_814 : decode cL_holds 814 = .ok (.invokestatic 150, 3) := by decide +kernel
theorem dL_holds_817 : decode cL_holds 817 = .ok (.ifCond .lt 7, 3) := by decide +kernel
theorem dL_holds_820 : decode cL_holds 820 = .ok (.iconst 1, 1) := by decide +kernel
theorem dL_holds_821 : decode cL_holds 821 = .ok (.goto 4, 3) := by decide +kernel
theorem dL_holds_824 : decode cL_holds 824 = .ok (.iconst 0, 1) := by decide +kernel
theorem dL_holds_825 : decode cL_holds 825 = .ok (.istore 4, 2) := by decide +kernel
theorem dL_holds_827 : decode cL_holds 827 = .ok (.aload_n 0, 1) := by decide +kernel
theorem dL_holds_828 : decode cL_holds 828 = .ok (.bipush 9, 2) := by decide +kernel
theorem dL_holds_830 : decode cL_holds 830 = .ok (.iload 10, 2) := by decide +kernel
theorem dL_holds_832 : decode cL_holds 832 = .ok (.iconst 0, 1) := by decide +kernel
theorem dL_holds_833 : decode cL_holds 833 = .ok (.iconst 0, 1) := by decide +kernel
theorem dL_holds_834 : decode cL_holds 834 = .ok (.invokestatic 150, 3) := by decide +kernel
theorem dL_holds_837 : decode cL_holds 837 = .ok (.istore 14, 2) := by decide +kernel
theorem dL_holds_839 : decode cL_holds 839 = .ok (.iload 14, 2) := by decide +kernel
theorem dL_holds_841 : decode cL_holds 841 = .ok (.ifCond .lt 90, 3) := by decide +kernel
theorem dL_holds_844 : decode cL_holds 844 = .ok (.iload 4, 2) := by decide +kernel
theorem dL_holds_846 : decode cL_holds 846 = .ok (.ifCond .eq 85, 3) := by decide +kernel
theorem dL_holds_849 : decode cL_holds 849 = .ok (.iload 14, 2) := by decide +kernel
theorem dL_holds_851 : decode cL_holds 851 = .ok (.iload_n 2, 1) := by decide +kernel
theorem dL_holds_852 : decode cL_holds 852 = .ok (.if_icmp .ne 76, 3) := by decide +kernel
theorem dL_holds_855 : decode cL_holds 855 = .ok (.aload_n 0, 1) := by decide +kernel
theorem dL_holds_856 : decode cL_holds 856 = .ok (.iconst 3, 1) := by decide +kernel
theorem dL_holds_857 : decode cL_holds 857 = .ok (.iload_n 2, 1) := by decide +kernel
theorem dL_holds_858 : decode cL_holds 858 = .ok (.iconst 0, 1) := by decide +kernel
theorem dL_holds_859 : decode cL_holds 859 = .ok (.iconst 0, 1) := by decide +kernel
theorem dL_holds_860 : decode cL_holds 860 = .ok (.invokestatic 150, 3) := by decide +kernel
theorem dL_holds_863 : decode cL_holds 863 = .ok (.iload 10, 2) := by decide +kernel
theorem dL_holds_865 : decode cL_holds 865 = .ok (.if_icmp .ne 63, 3) := by decide +kernel
theorem dL_holds_868 : decode cL_holds 868 = .ok (.aload_n 0, 1) := by decide +kernel
theorem dL_holds_869 : decode cL_holds 869 = .ok (.iconst 3, 1) := by decide +kernel
theorem dL_holds_870 : decode cL_holds 870 = .ok (.iload_n 2, 1) := by decide +kernel
theorem dL_holds_871 : decode cL_holds 871 = .ok (.iconst 3, 1) := by decide +kernel
theorem dL_holds_872 : decode cL_holds 872 = .ok (.iconst 0, 1) := by decide +kernel
theorem dL_holds_873 : decode cL_holds 873 = .ok (.invokestatic 150, 3) := by decide +kernel
theorem dL_holds_876 : decode cL_holds 876 = .ok (.iload_n 3, 1) := by decide +kernel
theorem dL_holds_877 : decode cL_holds 877 = .ok (.if_icmp .ne 51, 3) := by decide +kernel
theorem dL_holds_880 : decode cL_holds 880 = .ok (.aload_n 0, 1) := by decide +kernel
theorem dL_holds_881 : decode cL_holds 881 = .ok (.iconst 3, 1) := by decide +kernel
theorem dL_holds_882 : decode cL_holds 882 = .ok (.iload_n 2, 1) := by decide +kernel
theorem dL_holds_883 : decode cL_holds 883 = .ok (.iconst 1, 1) := by decide +kernel
theorem dL_holds_884 : decode cL_holds 884 = .ok (.iconst 0, 1) := by decide +kernel
theorem dL_holds_885 : decode cL_holds 885 = .ok (.invokestatic 150, 3) := by decide +kernel
theorem dL_holds_888 : decode cL_holds 888 = .ok (.iload 6, 2) := by decide +kernel
theorem dL_holds_890 : decode cL_holds 890 = .ok (.if_icmp .ne 38, 3) := by decide +kernel
theorem dL_holds_893 : decode cL_holds 893 = .ok (.iload_n 2, 1) := by decide +kernel
theorem dL_holds_894 : decode cL_holds 894 = .ok (.ifCond .eq 18, 3) := by decide +kernel
theorem dL_holds_897 : decode cL_holds 897 = .ok (.aload_n 0, 1) := by decide +kernel
theorem dL_holds_898 : decode cL_holds 898 = .ok (.bipush 16, 2) := by decide +kernel
theorem dL_holds_900 : decode cL_holds 900 = .ok (.iload_n 2, 1) := by decide +kernel
theorem dL_holds_901 : decode cL_holds 901 = .ok (.iload 9, 2) := by decide +kernel
theorem dL_holds_903 : decode cL_holds 903 = .ok (.iconst 0, 1) := by decide +kernel
theorem dL_holds_904 : decode cL_holds 904 = .ok (.invokestatic 150, 3) := by decide +kernel
theorem dL_holds_907 : decode cL_holds 907 = .ok (.iload 8, 2) := by decide +kernel
theorem dL_holds_909 : decode cL_holds 909 = .ok (.if_icmp .ne 19, 3) := by decide +kernel
theorem dL_holds_912 : decode cL_holds 912 = .ok (.aload_n 0, 1) := by decide +kernel
theorem dL_holds_913 : decode cL_holds 913 = .ok (.bipush 13, 2) := by decide +kernel
theorem dL_holds_915 : decode cL_holds 915 = .ok (.iconst 0, 1) := by decide +kernel
theorem dL_holds_916 : decode cL_holds 916 = .ok (.iconst 0, 1) := by decide +kernel
theorem dL_holds_917 : decode cL_holds 917 = .ok (.iconst 0, 1) := by decide +kernel
theorem dL_holds_918 : decode cL_holds 918 = .ok (.invokestatic 150, 3) := by decide +kernel
theorem dL_holds_921 : decode cL_holds 921 = .ok (.ifCond .lt 7, 3) := by decide +kernel
theorem dL_holds_924 : decode cL_holds 924 = .ok (.iconst 1, 1) := by decide +kernel
theorem dL_holds_925 : decode cL_holds 925 = .ok (.goto 4, 3) := by decide +kernel
theorem dL_holds_928 : decode cL_holds 928 = .ok (.iconst 0, 1) := by decide +kernel
theorem dL_holds_929 : decode cL_holds 929 = .ok (.istore 4, 2) := by decide +kernel
theorem dL_holds_931 : decode cL_holds 931 = .ok (.iload 4, 2) := by decide +kernel
theorem dL_holds_933 : decode cL_holds 933 = .ok (.ifCond .eq 45, 3) := by decide +kernel
theorem dL_holds_936 : decode cL_holds 936 = .ok (.aload_n 0, 1) := by decide +kernel
theorem dL_holds_937 : decode cL_holds 937 = .ok (.iconst 1, 1) := by decide +kernel
theorem dL_holds_938 : decode cL_holds 938 = .ok (.iconst 3, 1) := by decide +kernel
theorem dL_holds_939 : decode cL_holds 939 = .ok (.iconst 0, 1) := by decide +kernel
theorem dL_holds_940 : decode cL_holds 940 = .ok (.iconst 0, 1) := by decide +kernel
theorem dL_holds_941 : decode cL_holds 941 = .ok (.invokestatic 150, 3) := by decide +kernel
theorem dL_holds_944 : decode cL_holds 944 = .ok (.iload_n 3, 1) := by decide +kernel
theorem dL_holds_945 : decode cL_holds 945 = .ok (.if_icmp .ne 33, 3) := by decide +kernel
theorem dL_holds_948 : decode cL_holds 948 = .ok (.aload_n 0, 1) := by decide +kernel
theorem dL_holds_949 : decode cL_holds 949 = .ok (.iconst 1, 1) := by decide +kernel
theorem dL_holds_950 : decode cL_holds 950 = .ok (.iconst 4, 1) := by decide +kernel
theorem dL_holds_951 : decode cL_holds 951 = .ok (.iconst 0, 1) := by decide +kernel
theorem dL_holds_952 : decode cL_holds 952 = .ok (.iconst 0, 1) := by decide +kernel
theorem dL_holds_953 : decode cL_holds 953 = .ok (.invokestatic 150, 3) := by decide +kernel
theorem dL_holds_956 : decode cL_holds 956 = .ok (.iload_n 2, 1) := by decide +kernel
theorem dL_holds_957 : decode cL_holds 957 = .ok (.if_icmp .ne 21, 3) := by decide +kernel
theorem dL_holds_960 : decode cL_holds 960 = .ok (.aload_n 0, 1) := by decide +kernel
theorem dL_holds_961 : decode cL_holds 961 = .ok (.bipush 14, 2) := by decide +kernel
theorem dL_holds_963 : decode cL_holds 963 = .ok (.iconst 2, 1) := by decide +kernel
theorem dL_holds_964 : decode cL_holds 964 = .ok (.iconst 0, 1) := by decide +kernel
theorem dL_holds_965 : decode cL_holds 965 = .ok (.iconst 0, 1) := by decide +kernel
theorem dL_holds_966 : decode cL_holds 966 = .ok (.invokestatic 150, 3) := by decide +kernel
theorem dL_holds_969 : decode cL_holds 969 = .ok (.iload 8, 2) := by decide +kernel
theorem dL_holds_971 : decode cL_holds 971 = .ok (.if_icmp .ne 7, 3) := by decide +kernel
theorem dL_holds_974 : decode cL_holds 974 = .ok (.iconst 1, 1) := by decide +kernel
theorem dL_holds_975 : decode cL_holds 975 = .ok (.goto 4, 3) := by decide +kernel
theorem dL_holds_978 : decode cL_holds 978 = .ok (.iconst 0, 1) := by decide +kernel
theorem dL_holds_979 : decode cL_holds 979 = .ok (.ireturn, 1) := by decide +kernel
set_option maxRecDepth 20000 in
theorem ggL_act_L_call_p0 : GoodIn wsL_act [.code yL_call cL_call 5 (some .int)] := goodIn_r _ [5] (by decide +kernel) (by decide +kernel)
set_option maxRecDepth 20000 in
theorem ggL_act_L_call_p1 : GoodIn wsL_act wsL_call_r1 := goodIn_r _ [6, 7, 4, 8, 9, 10, 11, 12, 13, 14, 15, 16, 17, 18, 19, 20, 21, 22, 23, 24, 25, 26, 27, 28] (by decide +kernel) (by decide +kernel)
set_option maxRecDepth 20000 in
theorem ggL_act_L_call_p2 : GoodIn wsL_act wsL_call_r2 := goodIn_r _ [29, 30, 31, 32, 33, 34, 35, 36, 37, 38, 39, 40, 41, 42, 43, 44, 45, 46, 47, 48, 49, 50, 51, 52] (by decide +kernel) (by decide +kernel)
set_option maxRecDepth 20000 in
theorem ggL_act_L_call_p3 : GoodIn wsL_act wsL_call_r3 := goodIn_r _ [53, 54, 55, 56, 57, 58, 59, 60, 61, 62, 63, 64, 65, 66, 67, 68, 69, 70, 71, 72, 73, 74, 75, 76] (by decide +kernel) (by decide +kernel)
set_option maxRecDepth 20000 in
theorem ggL_act_L_call_p4 : GoodIn wsL_act wsL_call_r4 := goodIn_r _ [77, 78, 79, 80, 81, 82, 83, 84, 85, 86, 87, 88, 89, 90, 91, 92, 93, 94, 95, 96, 97, 98, 99, 100] (by decide +kernel) (by decide +kernel)
set_option maxRecDepth 20000 in
theorem ggL_act_L_call_p5 : GoodIn wsL_act wsL_call_r5 := goodIn_r _ [101, 102, 103, 104, 105, 106, 107, 108, 109, 110, 111, 112, 113, 114, 115, 116, 117, 118, 119, 120, 121, 122, 123, 124] (by decide +kernel) (by decide +kernel)
set_option maxRecDepth 20000 in
theorem ggL_act_L_call_p6 : GoodIn wsL_act wsL_call_r6 := goodIn_r _ [125, 126, 127, 128, 129, 130, 131, 132, 133, 134, 135, 136, 137, 138, 139, 140, 141, 142, 143, 144, 145, 146, 147, 148] (by decide +kernel) (by decide +kernel)
set_option maxRecDepth 20000 in
theorem ggL_act_L_call_p7 : GoodIn wsL_act wsL_call_r7 := goodIn_r _ [149, 150, 151, 152, 153, 154, 155, 156, 157, 158, 159, 160, 161, 162, 163, 164, 165, 166, 167, 168, 169, 170, 171, 172] (by decide +kernel) (by decide +kernel)
set_option maxRecDepth 20000 in
theorem ggL_act_L_call_p8 : GoodIn wsL_act wsL_call_r8 := goodIn_r _ [173, 174, 175, 176, 177, 178, 179, 180, 181, 182, 183, 184, 185, 186, 187, 188, 189, 190, 191, 192, 193, 194, 195, 196] (by decide +kernel) (by decide +kernel)
set_option maxRecDepth 20000 in
theorem ggL_act_L_call_p9 : GoodIn wsL_act wsL_call_r9 := goodIn_r _ [197, 198, 199, 200, 201, 202, 203, 204, 205, 206, 207, 208, 209, 210, 211, 212, 213, 214, 215, 216, 217, 218, 219, 220] (by decide +kernel) (by decide +kernel)
set_option maxRecDepth 20000 in
theorem ggL_act_L_call_p10 : GoodIn wsL_act wsL_call_r10 := goodIn_r _ [221, 222, 223, 224, 225, 226, 227, 228, 229, 230, 231, 232, 233, 234, 235, 236, 237, 238, 239, 240, 241, 242, 243, 244] (by decide +kernel) (by decide +kernel)
set_option maxRecDepth 20000 in
theorem ggL_act_L_call_p11 : GoodIn wsL_act wsL_call_r11 := goodIn_r _ [245, 246, 247, 248, 249, 250, 251, 252, 253, 254, 255, 256, 257, 258, 259, 260, 261, 262, 263, 264, 265, 266, 267, 268] (by decide +kernel) (by decide +kernel)
set_option maxRecDepth 20000 in
theorem ggL_act_L_call_p12 : GoodIn wsL_act wsL_call_r12 := goodIn_r _ [269, 270, 271, 272, 273, 274, 275, 276, 277, 278, 279, 280, 281, 282, 283, 284, 285, 286, 287, 288, 289, 290, 291, 292] (by decide +kernel) (by decide +kernel)
set_option maxRecDepth 20000 in
theorem ggL_act_L_call_p13 : GoodIn wsL_act wsL_call_r13 := goodIn_r _ [293, 294, 295, 296, 297, 298, 299, 300, 301, 302, 303, 304, 305, 306, 307, 308, 309, 310, 311, 312, 313, 314, 315, 316] (by decide +kernel) (by decide +kernel)
set_option maxRecDepth 20000 in
theorem ggL_act_L_call_p14 : GoodIn wsL_act wsL_call_r14 := goodIn_r _ [317, 318, 319, 320, 321, 322, 323, 324, 325, 326, 327, 328, 329, 330, 331, 332, 333, 334, 335, 336, 337, 338, 339, 340] (by decide +kernel) (by decide +kernel)
set_option maxRecDepth 20000 in
theorem ggL_act_L_call_p15 : GoodIn wsL_act wsL_call_r15 := goodIn_r _ [341, 342, 343, 344, 345, 346, 347, 348, 349, 350, 351, 352, 353, 354, 355, 356, 357, 358, 359, 360, 361, 362, 363, 364] (by decide +kernel) (by decide +kernel)
set_option maxRecDepth 20000 in
theorem ggL_act_L_call_p16 : GoodIn wsL_act wsL_call_r16 := goodIn_r _ [365, 366, 367, 368, 369, 370, 371, 372, 373, 374, 375, 376, 377, 378, 379, 380, 381, 382, 383, 384, 385, 386, 387, 388] (by decide +kernel) (by decide +kernel)
set_option maxRecDepth 20000 in
theorem ggL_act_L_call_p17 : GoodIn wsL_act wsL_call_r17 := goodIn_r _ [389, 390, 391, 392, 393, 394, 395, 396, 397, 398, 399, 400, 401, 402, 403, 404, 405, 406, 407, 408, 409, 410, 411, 412] (by decide +kernel) (by decide +kernel)
set_option maxRecDepth 20000 in
theorem ggL_act_L_call_p18 : GoodIn wsL_act wsL_call_r18 := goodIn_r _ [413, 414, 415, 416, 417, 418, 419, 420, 421, 422, 423, 424, 425, 426, 427, 428, 429, 430, 431, 432, 433, 434, 435, 436] (by decide +kernel) (by decide +kernel)
set_option maxRecDepth 20000 in
theorem ggL_act_L_call_p19 : GoodIn wsL_act wsL_call_r19 := goodIn_r _ [437, 438, 439, 440, 441, 442, 443, 444, 445, 446, 447, 448, 449, 450, 451, 452, 453, 454, 455, 456, 457, 458, 459, 460] (by decide +kernel) (by decide +kernel)
set_option maxRecDepth 20000 in
theorem ggL_act_L_call_p20 : GoodIn wsL_act wsL_call_r20 := goodIn_r _ [461, 462, 463, 464, 465, 466, 467, 468, 469, 470, 471, 472, 473, 474, 475, 476, 477, 478, 479] (by decide +kernel) (by decide +kernel)
set_option maxRecDepth 20000 in
theorem ggL_act_L_call_p21 : GoodIn wsL_act wsX60 := goodIn_r _ [489, 490, 491, 492, 493, 494] (by decide +kernel) (by decide +kernel)
set_option maxRecDepth 20000 in
theorem ggL_act_L_call_p22 : GoodIn wsL_act wsX50 := goodIn_r _ [495, 496] (by decide +kernel) (by decide +kernel)
set_option maxRecDepth 20000 in
theorem ggL_act_L_call_p23 : GoodIn wsL_act wsX40 := goodIn_r _ [497, 498, 499, 500, 501, 502] (by decide +kernel) (by decide +kernel)
set_option maxRecDepth 20000 in
theorem ggL_act_L_call_p24 : GoodIn wsL_act wsX00 := goodIn_r _ [503, 504, 505, 506, 507] (by decide +kernel) (by decide +kernel)
set_option maxRecDepth 20000 in
theorem ggL_act_L_call_p25 : GoodIn wsL_act wsX10 := goodIn_r _ [508, 509, 510] (by decide +kernel) (by decide +kernel)
set_option maxRecDepth 20000 in
theorem ggL_act_L_call_p26 : GoodIn wsL_act wsX30 := goodIn_r _ [511] (by decide +kernel) (by decide +kernel)
set_option maxRecDepth 20000 in
theorem ggL_act_L_call_p27 : GoodIn wsL_act wsX20 := goodIn_r _ [512, 513, 514, 515, 516, 517] (by decide +kernel) (by decide +kernel)
set_option maxRecDepth 20000 in
theorem ggL_act_L_call : GoodIn wsL_act wsL_call := goodIn_ca (goodIn_ca (goodIn_ca (goodIn_c2 ggL_act_L_call_p0 (goodIn_app (goodIn_app (goodIn_app (goodIn_app (goodIn_app (goodIn_app (goodIn_app (goodIn_app ggL_act_L_call_p1 (goodIn_app ggL_act_L_call_p2 (goodIn_app ggL_act_L_call_p3 (goodIn_app ggL_act_L_call_p4 (goodIn_app ggL_act_L_call_p5 (goodIn_app ggL_act_L_call_p6 (goodIn_app ggL_act_L_call_p7 (goodIn_app ggL_act_L_call_p8 (goodIn_app ggL_act_L_call_p9 (goodIn_app ggL_act_L_call_p10 (goodIn_app ggL_act_L_call_p11 (goodIn_app ggL_act_L_call_p12 (goodIn_app ggL_act_L_call_p13 (goodIn_app ggL_act_L_call_p14 (goodIn_app ggL_act_L_call_p15 (goodIn_app ggL_act_L_call_p16 (goodIn_app ggL_act_L_call_p17 (goodIn_app ggL_act_L_call_p18 (goodIn_app ggL_act_L_call_p19 ggL_act_L_call_p20))))))))))))))))))) ggL_act_L_call_p21) ggL_act_L_call_p22) ggL_act_L_call_p23) ggL_act_L_call_p24) ggL_act_L_call_p25) ggL_act_L_call_p26) ggL_act_L_call_p27)) (goodIn_sub (fun _ h => List.mem_cons_of_mem _ (List.mem_append_left _ (List.mem_append_left _ (List.mem_append_right _ h)))) (by decide +kernel))) (goodIn_sub (fun _ h => List.mem_cons_of_mem _ (List.mem_append_left _ (List.mem_append_right _ h))) (by decide +kernel))) (goodIn_sub (fun _ h => List.mem_cons_of_mem _ (List.mem_append_right _ h)) (by decide +kernel))
set_option maxRecDepth 20000 in
theorem gL_act_L_call : GoodIn wsL_act (va_wsS RL 150 yL_call wsL_call) := goodIn_app (goodIn_of _ (by decide +kernel)) ggL_act_L_call
set_option maxRecDepth 20000 in
theorem ggL_act_X6_lift_p0 : GoodIn wsL_act [.code yX6_lift cX6_lift 1 (some .int)] := goodIn_r _ [483] (by decide +kernel) (by decide +kernel)
theorem ggL_act_X6_lift_p1 : GoodIn wsL_act wsX6_lift_r1 := goodIn_r _ [147, 40, 41, 279, 280, 281, 154, 282, 283, 152, 153, 155, 156, 157, 158, 159, 160, 161, 162, 163, 164, 165, 70, 166] (by decide +kernel) (by decide +kernel)
theorem ggL_act_X6_lift_p2 : GoodIn wsL_act wsX6_lift_r2 := goodIn_r _ [167, 168, 169, 170, 171, 172, 47, 173, 174, 109, 139, 76, 175, 176, 177, 49, 61, 178, 66, 88, 179, 180, 181, 182] (by decide +kernel) (by decide +kernel)
theorem ggL_act_X6_lift_p3 : GoodIn wsL_act wsX6_lift_r3 := goodIn_r _ [104, 183, 184, 185, 186, 187, 188, 16, 189, 190, 191, 192, 193, 194, 195, 196, 197, 284, 241, 242, 243, 244, 245, 484] (by decide +kernel) (by decide +kernel)
theorem ggL_act_X6_lift_p4 : GoodIn wsL_act wsX6_lift_r4 := goodIn_r _ [276, 277, 278, 44, 45, 46, 48, 50, 51] (by decide +kernel) (by decide +kernel)
theorem ggL_act_X6_lift_p5 : GoodIn wsL_act wsX60 := goodIn_r _ [489, 490, 491, 492, 493, 494] (by decide +kernel) (by decide +kernel)
theorem ggL_act_X6_lift_p6 : GoodIn wsL_act wsX40 := goodIn_r _ [497, 498, 499, 500, 501, 502] (by decide +kernel) (by decide +kernel)
theorem ggL_act_X6_lift_p7 : GoodIn wsL_act wsX10 := goodIn_r _ [508, 509, 510] (by decide +kernel) (by decide +kernel)
theorem ggL_act_X6_lift_p8 : GoodIn wsL_act wsX30 := goodIn_r _ [511] (by decide +kernel) (by decide +kernel)
theorem ggL_act_X6_lift_p9 : GoodIn wsL_act wsX00 := goodIn_r _ [503, 504, 505, 506, 507] (by decide +kernel) (by decide +kernel)
theorem ggL_act_X6_lift : GoodIn wsL_act wsX6_lift := (goodIn_c2 ggL_act_X6_lift_p0 (goodIn_app (goodIn_app (goodIn_app (goodIn_app (goodIn_app (goodIn_app ggL_act_X6_lift_p1 (goodIn_app ggL_act_X6_lift_p2 (goodIn_app ggL_act_X6_lift_p3 ggL_act_X6_lift_p4))) ggL_act_X6_lift_p5) ggL_act_X6_lift_p6) ggL_act_X6_lift_p7) ggL_act_X6_lift_p8) ggL_act_X6_lift_p9))
set_option maxRecDepth 20000 in
theorem gL_act_X6_lift : GoodIn wsL_act (wsV RL 181 RX6 yX6_lift wsX6_lift) := goodIn_app (goodIn_of _ (by decide +kernel)) ggL_act_X6_lift
set_option maxRecDepth 20000 in
theorem ggL_act_X6_clearText : GoodIn wsL_act wsX6_clearText := goodIn_r _ [488, 22, 23, 489, 490, 491, 492, 493, 494, 495, 496] (by decide +kernel) (by decide +kernel)
set_option maxRecDepth 20000 in
theorem gL_act_X6_clearText : GoodIn wsL_act (wsV RL 184 RX6 yX6_clearText wsX6_clearText) := goodIn_app (goodIn_of _ (by decide +kernel)) ggL_act_X6_clearText
theorem dL_act_0 : decode cL_act 0 = .ok (.iload_n 1, 1) := by decide +kernel
theorem dL_act_1 : decode cL_act 1 = .ok (.bipush 16, 2) := by decide +kernel
theorem dL_act_3 : decode cL_act 3 = .ok (.irem, 1) := by decide +kernel
theorem dL_act_4 : decode cL_act 4 = .ok (.tableswitch 340 0 10 #[60, 75, 96, 96, 101, 101, 113, 125, 155, 167, 179], 60) := by decide +kernel
theorem dL_act_64 : decode cL_act 64 = .ok (.aload_n 0, 1) := by decide +kernel
theorem dL_act_65 : decode cL_act 65 = .ok (.bipush 12, 2) := by decide +kernel
theorem dL_act_67 : decode cL_act 67 = .ok (.iconst 0, 1) := by decide +kernel
theorem dL_act_68 : decode cL_act 68 = .ok (.iconst 5, 1) := by decide +kernel
theorem dL_act_69 : decode cL_act 69 = .ok (.iload_n 2, 1) := by decide +kernel
theorem dL_act_70 : decode cL_act 70 = .ok (.bipush 16, 2) := by decide +kernel
theorem dL_act_72 : decode cL_act 72 = .ok (.irem, 1) := by decide +kernel
theorem dL_act_73 : decode cL_act 73 = .ok (.iadd, 1) := by decide +kernel
theorem dL_act_74 : decode cL_act 74 = .ok (.iconst 0, 1) := by decide +kernel
theorem dL_act_75 : decode cL_act 75 = .ok (.invokestatic 150, 3) := by decide +kernel
theorem dL_act_78 : decode cL_act 78 = .ok (.ireturn, 1) := by decide +kernel
theorem dL_act_79 : decode cL_act 79 = .ok (.aload_n 0, 1) := by decide +kernel
theorem dL_act_80 : decode cL_act 80 = .ok (.bipush 12, 2) := by decide +kernel
theorem dL_act_82 : decode cL_act 82 = .ok (.iconst 1, 1) := by decide +kernel
theorem dL_act_83 : decode cL_act 83 = .ok (.iload_n 2, 1) := by decide +kernel
theorem dL_act_84 : decode cL_act 84 = .ok (.iconst 2, 1) := by decide +kernel
theorem dL_act_85 : decode cL_act 85 = .ok (.irem, 1) := by decide +kernel
theorem dL_act_86 : decode cL_act 86 = .ok (.iadd, 1) := by decide +kernel
theorem dL_act_87 : decode cL_act 87 = .ok (.iconst 1, 1) := by decide +kernel
theorem dL_act_88 : decode cL_act 88 = .ok (.iload_n 2, 1) := by decide +kernel
theorem dL_act_89 : decode cL_act 89 = .ok (.iconst 2, 1) := by decide +kernel
theorem dL_act_90 : decode cL_act 90 = .ok (.idiv, 1) := by decide +kernel
theorem dL_act_91 : decode cL_act 91 = .ok (.bipush 20, 2) := by decide +kernel
theorem dL_act_93 : decode cL_act 93 = .ok (.irem, 1) := by decide +kernel
theorem dL_act_94 : decode cL_act 94 = .ok (.iadd, 1) := by decide +kernel
theorem dL_act_95 : decode cL_act 95 = .ok (.iconst 0, 1) := by decide +kernel
theorem dL_act_96 : decode cL_act 96 = .ok (.invokestatic 150, 3) := by decide +kernel
theorem dL_act_99 : decode cL_act 99 = .ok (.ireturn, 1) := by decide +kernel
theorem dL_act_100 : decode cL_act 100 = .ok (.aload_n 0, 1) := by decide +kernel
theorem dL_act_101 : decode cL_act 101 = .ok (.invokevirtual 181, 3) := by decide +kernel
theorem dL_act_104 : decode cL_act 104 = .ok (.ireturn, 1) := by decide +kernel
theorem dL_act_105 : decode cL_act 105 = .ok (.aload_n 0, 1) := by decide +kernel
theorem dL_act_106 : decode cL_act 106 = .ok (.bipush 9, 2) := by decide +kernel
theorem dL_act_108 : decode cL_act 108 = .ok (.iload_n 2, 1) := by decide +kernel
theorem dL_act_109 : decode cL_act 109 = .ok (.iconst 5, 1) := by decide +kernel
theorem dL_act_110 : decode cL_act 110 = .ok (.irem, 1) := by decide +kernel
theorem dL_act_111 : decode cL_act 111 = .ok (.iconst 0, 1) := by decide +kernel
theorem dL_act_112 : decode cL_act 112 = .ok (.iconst 0, 1) := by decide +kernel
theorem dL_act_113 : decode cL_act 113 = .ok (.invokestatic 150, 3) := by decide +kernel
theorem dL_act_116 : decode cL_act 116 = .ok (.ireturn, 1) := by decide +kernel
theorem dL_act_117 : decode cL_act 117 = .ok (.aload_n 0, 1) := by decide +kernel
theorem dL_act_118 : decode cL_act 118 = .ok (.bipush 11, 2) := by decide +kernel
theorem dL_act_120 : decode cL_act 120 = .ok (.iload_n 2, 1) := by decide +kernel
theorem dL_act_121 : decode cL_act 121 = .ok (.iconst 5, 1) := by decide +kernel
theorem dL_act_122 : decode cL_act 122 = .ok (.irem, 1) := by decide +kernel
theorem dL_act_123 : decode cL_act 123 = .ok (.iconst 0, 1) := by decide +kernel
theorem dL_act_124 : decode cL_act 124 = .ok (.iconst 0, 1) := by decide +kernel
theorem dL_act_125 : decode cL_act 125 = .ok (.invokestatic 150, 3) := by decide +kernel
theorem dL_act_128 : decode cL_act 128 = .ok (.ireturn, 1) := by decide +kernel
theorem dL_act_129 : decode cL_act 129 = .ok (.iload_n 2, 1) := by decide +kernel
theorem dL_act_130 : decode cL_act 130 = .ok (.iconst 3, 1) := by decide +kernel
theorem dL_act_131 : decode cL_act 131 = .ok (.irem, 1) := by decide +kernel
theorem dL_act_132 : decode cL_act 132 = .ok (.ifCond .ne 17, 3) := by decide +kernel
theorem dL_act_135 : decode cL_act 135 = .ok (.aload_n 0, 1) := by decide +kernel
theorem dL_act_136 : decode cL_act 136 = .ok (.bipush 10, 2) := by decide +kernel
theorem dL_act_138 : decode cL_act 138 = .ok (.iload_n 2, 1) := by decide +kernel
theorem dL_act_139 : decode cL_act 139 = .ok (.iconst 4, 1) := by decide +kernel
theorem dL_act_140 : decode cL_act 140 = .ok (.irem, 1) := by decide +kernel
theorem dL_act_141 : decode cL_act 141 = .ok (.iconst 0, 1) := by decide +kernel
theorem dL_act_142 : decode cL_act 142 = .ok (.iconst 0, 1) := by decide +kernel
theorem dL_act_143 : decode cL_act 143 = .ok (.invokestatic 150, 3) := by decide +kernel
theorem dL_act_146 : decode cL_act 146 = .ok (.goto 12, 3) := by decide +kernel
theorem dL_act_149 : decode cL_act 149 = .ok (.aload_n 0, 1) := by decide +kernel
theorem dL_act_150 : decode cL_act 150 = .ok (.bipush 13, 2) := by decide +kernel
theorem dL_act_152 : decode cL_act 152 = .ok (.iconst 0, 1) := by decide +kernel
theorem dL_act_153 : decode cL_act 153 = .ok (.iconst 0, 1) := by decide +kernel
theorem dL_act_154 : decode cL_act 154 = .ok (.iconst 0, 1) := by decide +kernel
theorem dL_act_155 : decode cL_act 155 = .ok (.invokestatic 150, 3) := by decide +kernel
theorem dL_act_158 : decode cL_act 158 = .ok (.ireturn, 1) := by decide +kernel
theorem dL_act_159 : decode cL_act 159 = .ok (.aload_n 0, 1) := by decide +kernel
theorem dL_act_160 : decode cL_act 160 = .ok (.bipush 17, 2) := by decide +kernel
theorem dL_act_162 : decode cL_act 162 = .ok (.iload_n 2, 1) := by decide +kernel
theorem dL_act_163 : decode cL_act 163 = .ok (.iconst 2, 1) := by decide +kernel
theorem dL_act_164 : decode cL_act 164 = .ok (.irem, 1) := by decide +kernel
theorem dL_act_165 : decode cL_act 165 = .ok (.iconst 0, 1) := by decide +kernel
theorem dL_act_166 : decode cL_act 166 = .ok (.iconst 0, 1) := by decide +kernel
theorem dL_act_167 : decode cL_act 167 = .ok (.invokestatic 150, 3) := by decide +kernel
theorem dL_act_170 : decode cL_act 170 = .ok (.ireturn, 1) := by decide +kernel
theorem dL_act_171 : decode cL_act 171 = .ok (.aload_n 0, 1) := by decide +kernel
theorem dL_act_172 : decode cL_act 172 = .ok (.bipush 18, 2) := by decide +kernel
theorem dL_act_174 : decode cL_act 174 = .ok (.iload_n 2, 1) := by decide +kernel
theorem dL_act_175 : decode cL_act 175 = .ok (.iconst 2, 1) := by decide +kernel
theorem dL_act_176 : decode cL_act 176 = .ok (.irem, 1) := by decide +kernel
theorem dL_act_177 : decode cL_act 177 = .ok (.iconst 0, 1) := by decide +kernel
theorem dL_act_178 : decode cL_act 178 = .ok (.iconst 0, 1) := by decide +kernel
theorem dL_act_179 : decode cL_act 179 = .ok (.invokestatic 150, 3) := by decide +kernel
theorem dL_act_182 : decode cL_act 182 = .ok (.ireturn, 1) := by decide +kernel
theorem dL_act_183 : decode cL_act 183 = .ok (.aload_n 0, 1) := by decide +kernel
theorem dL_act_184 : decode cL_act 184 = .ok (.invokevirtual 184, 3) := by decide +kernel
theorem dL_act_187 : decode cL_act 187 = .ok (.pop, 1) := by decide +kernel
theorem dL_act_188 : decode cL_act 188 = .ok (.aload_n 0, 1) := by decide +kernel
theorem dL_act_189 : decode cL_act 189 = .ok (.iconst 0, 1) := by decide +kernel
theorem dL_act_190 : decode cL_act 190 = .ok (.bipush 48, 2) := by decide +kernel
theorem dL_act_192 : decode cL_act 192 = .ok (.iload_n 2, 1) := by decide +kernel
theorem dL_act_193 : decode cL_act 193 = .ok (.bipush 7, 2) := by decide +kernel
theorem dL_act_195 : decode cL_act 195 = .ok (.irem, 1) := by decide +kernel
theorem dL_act_196 : decode cL_act 196 = .ok (.iadd, 1) := by decide +kernel
theorem dL_act_197 : decode cL_act 197 = .ok (.iconst 0, 1) := by decide +kernel
theorem dL_act_198 : decode cL_act 198 = .ok (.iconst 0, 1) := by decide +kernel
theorem dL_act_199 : decode cL_act 199 = .ok (.invokestatic 150, 3) := by decide +kernel
